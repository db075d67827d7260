/-! changes in the reference: what they leave -/
def zOfM (W W' : zWd) : Prop := (∀ k : Nat, k ≠ 116 → k ≠ 117 → k ≠ 118 → k ≠ 119 → k ≠ 120 → k ≠ 124 → k ≠ 125 → k ≠ 126 → W' k = W k) ∧ ∀ j : Int, j ≠ 6 → j ≠ 7 → j ≠ 20 → j ≠ 21 → j ≠ 22 → j ≠ 23 → j ≠ 24 → W' 116 j = W 116 j
theorem zOfM.rf {W : zWd} : zOfM W W := ⟨fun _ _ _ _ _ _ _ _ _ => rfl, fun _ _ _ _ _ _ _ _ => rfl⟩
theorem zOfM.tr {W W' W'' : zWd} (h : zOfM W W') (h2 : zOfM W' W'') : zOfM W W'' := ⟨fun k g1 g2 g3 g4 g5 g6 g7 g8 => (h2.1 k g1 g2 g3 g4 g5 g6 g7 g8).trans (h.1 k g1 g2 g3 g4 g5 g6 g7 g8), fun j g1 g2 g3 g4 g5 g6 g7 => (h2.2 j g1 g2 g3 g4 g5 g6 g7).trans (h.2 j g1 g2 g3 g4 g5 g6 g7)⟩
theorem zOfT.M {W W' : zWd} (h : zOfT W W') : zOfM W W' := ⟨fun k g1 g2 _ _ _ g6 g7 g8 => h.1 k g1 g2 g6 g7 g8, fun j _ _ g3 g4 _ _ g7 => h.2 j g3 g4 g7⟩
theorem zOfm.M {W W' : zWd} (h : zOfm W W') : zOfM W W' := ⟨fun k _ g2 _ _ _ _ _ _ => h k g2, fun j _ _ _ _ _ _ _ => by rw [h 116 (by decide)]⟩
theorem zOfk.M {W W' : zWd} (h : zOfk W W') : zOfM W W' := ⟨fun k g1 _ _ _ g5 _ _ _ => h.1 k g1 g5, fun j g1 _ _ _ _ _ _ => h.2 j g1⟩
theorem zOfQ.M {W W' : zWd} (h : zOfQ W W') : zOfM W W' := ⟨fun k g1 _ _ _ _ g6 g7 g8 => h.1 k g1 g6 g7 g8, fun j _ g2 g3 g4 _ _ _ => h.2 j g2 g3 g4⟩
theorem zOfM.up {W W' : zWd} {i v : Int} (h : zOfM W W') (hi : i = 6 ∨ i = 7 ∨ i = 20 ∨ i = 21 ∨ i = 22 ∨ i = 23 ∨ i = 24) : zOfM W (zup W' 116 i v) := ⟨fun k g1 g2 g3 g4 g5 g6 g7 g8 => by rw [zup_other k g1]; exact h.1 k g1 g2 g3 g4 g5 g6 g7 g8, fun j g1 g2 g3 g4 g5 g6 g7 => by rw [zup_i (by omega)]; exact h.2 j g1 g2 g3 g4 g5 g6 g7⟩
theorem zKp.M {W W' : zWd} {n : Int} {K : Nat → (Int → Int)} (h : zKp W n K) (e6 : W' 116 6 = W 116 6) (e : W' 120 = W 120) : zKp W' n K := by
  unfold zKp at *; rw [e6, e]; exact h
theorem zKp.T {W W' : zWd} {n : Int} {K : Nat → (Int → Int)} (h : zKp W n K) (o : zOfT W W') : zKp W' n K := h.M (o.2 6 (by decide) (by decide) (by decide)) (o.1 120 (by decide) (by decide) (by decide) (by decide) (by decide))
theorem zKp.m {W W' : zWd} {n : Int} {K : Nat → (Int → Int)} (h : zKp W n K) (o : zOfm W W') : zKp W' n K := h.T o.T
theorem zKp.u {W : zWd} {n : Int} {K : Nat → (Int → Int)} {i v : Int} (h : zKp W n K) (hi : i ≠ 6) : zKp (zup W 116 i v) n K := h.M (zup_i (by omega)) (zup_other 120 (by decide))
theorem dX7_turn_0 : decode cX7_turn 0 = .ok (.aload_n 0, 1) := by decide +kernel
theorem dX7_turn_1 : decode cX7_turn 1 = .ok (.iload_n 1, 1) := by decide +kernel
theorem dX7_turn_2 : decode cX7_turn 2 = .ok (.iload_n 2, 1) := by decide +kernel
theorem dX7_turn_3 : decode cX7_turn 3 = .ok (.invokestatic 297, 3) := by decide +kernel
theorem dX7_turn_6 : decode cX7_turn 6 = .ok (.ifCond .eq 7, 3) := by decide +kernel
theorem dX7_turn_9 : decode cX7_turn 9 = .ok (.iconst 0, 1) := by decide +kernel
theorem dX7_turn_10 : decode cX7_turn 10 = .ok (.goto 4, 3) := by decide +kernel
theorem dX7_turn_13 : decode cX7_turn 13 = .ok (.iconst 1, 1) := by decide +kernel
theorem dX7_turn_14 : decode cX7_turn 14 = .ok (.putfield 59, 3) := by decide +kernel
theorem dX7_turn_17 : decode cX7_turn 17 = .ok (.aload_n 0, 1) := by decide +kernel
theorem dX7_turn_18 : decode cX7_turn 18 = .ok (.getfield 59, 3) := by decide +kernel
theorem dX7_turn_21 : decode cX7_turn 21 = .ok (.ifCond .le 5, 3) := by decide +kernel
theorem dX7_turn_24 : decode cX7_turn 24 = .ok (.iconst 0, 1) := by decide +kernel
theorem dX7_turn_25 : decode cX7_turn 25 = .ok (.ireturn, 1) := by decide +kernel
theorem dX7_turn_26 : decode cX7_turn 26 = .ok (.aload_n 0, 1) := by decide +kernel
theorem dX7_turn_27 : decode cX7_turn 27 = .ok (.aload_n 0, 1) := by decide +kernel
theorem dX7_turn_28 : decode cX7_turn 28 = .ok (.getfield 7, 3) := by decide +kernel
theorem dX7_turn_31 : decode cX7_turn 31 = .ok (.invokevirtual 73, 3) := by decide +kernel
theorem dX7_turn_34 : decode cX7_turn 34 = .ok (.aload_n 0, 1) := by decide +kernel
theorem dX7_turn_35 : decode cX7_turn 35 = .ok (.iload_n 1, 1) := by decide +kernel
theorem dX7_turn_36 : decode cX7_turn 36 = .ok (.iload_n 2, 1) := by decide +kernel
theorem dX7_turn_37 : decode cX7_turn 37 = .ok (.invokevirtual 321, 3) := by decide +kernel
theorem dX7_turn_40 : decode cX7_turn 40 = .ok (.ireturn, 1) := by decide +kernel
theorem eX7_turn {W : zWd} {a : Int → Int} {T n : Int} {K : Nat → (Int → Int)} {r s : Int}  {Q : Option Value → zWd → Prop} {X : zX} (ha : W 117 = a) (hw : zWf T a) (hH : zKp W n K) (hT : T + 60 ≤ 100000000) (hz : zR r) (hz2 : zR s) (hq : (0 ≤ r ∧ r ≤ 199 ∧ 0 ≤ s ∧ s ≤ 1) → ∀ W' : zWd, zOfM W W' → W' 116 7 = 0 → zKp W' (if n + 1 < 8 then n + 1 else 8) (zPush a K) → W' 117 = aTurn a r s → Q (some (zI (aTfault a r s))) W') (hq1 : ¬ (0 ≤ r ∧ r ≤ 199 ∧ 0 ≤ s ∧ s ≤ 1) → ∀ W' : zWd, zOfM W W' → W' 116 7 = 1 → zKp W' n K → W' 117 = a → Q (some (zI 0)) W')  : Ev MX7_turn 8 0 W [.ref 116, zI r, zI s] Q X := by
  refine ev_of (ls := [.ref 116, zI r, zI s]) (by decide) rfl (fun _ => rfl) (fun _ => Nat.le_of_ble_eq_true rfl) (Or.inl rfl) ?_
  obtain ⟨w0, w0', wW, w1, w2, w2', w3, w3', w4, w4', w5, w5', w6, w6', w7, w7', wS, wP, wT⟩ := id hw
  have wq := zWf.sq hw
  refine rr_aload_n (pc := 0) dX7_turn_0 rfl ?_
  refine rr_iload_n (pc := 1) dX7_turn_1 rfl ?_
  refine rr_iload_n (pc := 2) dX7_turn_2 rfl ?_
  refine rr_sta0 (M' := MX7_isThrow) (As := [_, _]) (pc := 3) dX7_turn_3 lX7_297 kX7_isThrow sX7_isThrow (by decide) (by decide) (Nat.le_of_ble_eq_true rfl) rfl (eX7_isThrow hz hz2 ?_)
  refine rr_if_eq (pc := 6) (tgt := 13) dX7_turn_6 (by decide) (by split <;> (unfold zR; omega)) (fun h6 => ?_) (fun h6 => ?_)
  · refine rr_iconst (n := 1) dX7_turn_13 ?_
    have hnp := z_i10 h6
    refine rr_put (pc := 14) (ji := 7) dX7_turn_14 fX7_59 fp_7_7 zk_116 zr_116_7 rfl ?_
    have o1 : zOfM W (zup W 116 7 1) := zOfM.rf.up (by omega)
    have t1 : zup W 116 7 1 116 7 = 1 := zup_s
    have a1 : zup W 116 7 1 117 = a := (zup_other 117 (by decide)).trans ha
    have k1 : zKp (zup W 116 7 1) n K := hH.u (by decide)
    generalize zup W 116 7 1 = W1 at o1 t1 a1 k1 ⊢
    refine rr_aload_n (pc := 17) dX7_turn_17 rfl ?_
    refine rr_getI (pc := 18) (ji := 7) dX7_turn_18 fX7_59 zk_116 zr_116_7 rfl ?_
    rw [t1]
    refine rr_if_le (pc := 21) (tgt := 26) dX7_turn_21 (by decide) (by unfold zR; omega) (fun h21 => ?_) (fun h21 => ?_)
    · omega
    · refine rr_iconst (n := 0) dX7_turn_24 ?_
      exact rr_reti (pc := 25) dX7_turn_25 rfl rfl rfl rfl (hq1 hnp W1 o1 t1 k1 a1)
  · refine rr_iconst (n := 0) dX7_turn_9 ?_
    refine rr_goto (pc := 10) (tgt := 14) dX7_turn_10 (by decide) ?_
    have hpl := z_i10n h6
    refine rr_put (pc := 14) (ji := 7) dX7_turn_14 fX7_59 fp_7_7 zk_116 zr_116_7 rfl ?_
    have o1 : zOfM W (zup W 116 7 0) := zOfM.rf.up (by omega)
    have t1 : zup W 116 7 0 116 7 = 0 := zup_s
    have a1 : zup W 116 7 0 117 = a := (zup_other 117 (by decide)).trans ha
    have k1 : zKp (zup W 116 7 0) n K := hH.u (by decide)
    generalize zup W 116 7 0 = W1 at o1 t1 a1 k1 ⊢
    refine rr_aload_n (pc := 17) dX7_turn_17 rfl ?_
    refine rr_getI (pc := 18) (ji := 7) dX7_turn_18 fX7_59 zk_116 zr_116_7 rfl ?_
    rw [t1]
    refine rr_if_le (pc := 21) (tgt := 26) dX7_turn_21 (by decide) (by unfold zR; omega) (fun h21 => ?_) (fun h21 => ?_)
    · refine rr_aload_n (pc := 26) dX7_turn_26 rfl ?_
      refine rr_aload_n (pc := 27) dX7_turn_27 rfl ?_
      refine rr_getR (pc := 28) dX7_turn_28 fX7_7 zk_116 zr_116_0 ?_
      refine rr_inv0 (M' := MX7_keeps) (k := 116) (As := [_]) (pc := 31) dX7_turn_31 lX7_73 kX7_keeps vX7_keeps zk_116 (by decide) rfl (by decide) (by decide) (Nat.le_of_ble_eq_true rfl) rfl (eX7_keeps zk_117 (by decide) (by decide) (by decide) k1 (fun W2 o2 k2 => ?_))
      rw [a1] at k2
      have oA := o1.tr o2.M
      have tA : W2 116 7 = 0 := (o2.2 7 (by decide)).trans t1
      have a2 : W2 117 = a := (o2.1 117 (by decide) (by decide)).trans a1
      refine rr_aload_n (pc := 34) dX7_turn_34 rfl ?_
      refine rr_iload_n (pc := 35) dX7_turn_35 rfl ?_
      refine rr_iload_n (pc := 36) dX7_turn_36 rfl ?_
      refine rr_inv0 (M' := MX7_turns) (k := 116) (As := [_, _]) (pc := 37) dX7_turn_37 lX7_321 kX7_turns vX7_turns zk_116 (by decide) rfl (by decide) (by decide) (Nat.le_of_ble_eq_true rfl) rfl (eX7_turns a2 hw hT hpl.1 hpl.2.1 hpl.2.2.1 hpl.2.2.2 (fun W3 o3 e3 => ?_))
      exact rr_reti (pc := 40) dX7_turn_40 rfl rfl rfl rfl (hq hpl W3 (oA.tr o3.M) ((o3.2 7 (by decide) (by decide) (by decide)).trans tA) (k2.T o3) e3)
    · omega
theorem dX7_pass_0 : decode cX7_pass 0 = .ok (.aload_n 0, 1) := by decide +kernel
theorem dX7_pass_1 : decode cX7_pass 1 = .ok (.iconst 0, 1) := by decide +kernel
theorem dX7_pass_2 : decode cX7_pass 2 = .ok (.putfield 59, 3) := by decide +kernel
theorem dX7_pass_5 : decode cX7_pass 5 = .ok (.aload_n 0, 1) := by decide +kernel
theorem dX7_pass_6 : decode cX7_pass 6 = .ok (.aload_n 0, 1) := by decide +kernel
theorem dX7_pass_7 : decode cX7_pass 7 = .ok (.getfield 7, 3) := by decide +kernel
theorem dX7_pass_10 : decode cX7_pass 10 = .ok (.invokevirtual 73, 3) := by decide +kernel
theorem dX7_pass_13 : decode cX7_pass 13 = .ok (.aload_n 0, 1) := by decide +kernel
theorem dX7_pass_14 : decode cX7_pass 14 = .ok (.aload_n 0, 1) := by decide +kernel
theorem dX7_pass_15 : decode cX7_pass 15 = .ok (.getfield 7, 3) := by decide +kernel
theorem dX7_pass_18 : decode cX7_pass 18 = .ok (.iconst 4, 1) := by decide +kernel
theorem dX7_pass_19 : decode cX7_pass 19 = .ok (.iaload, 1) := by decide +kernel
theorem dX7_pass_20 : decode cX7_pass 20 = .ok (.iconst 0, 1) := by decide +kernel
theorem dX7_pass_21 : decode cX7_pass 21 = .ok (.invokevirtual 340, 3) := by decide +kernel
theorem dX7_pass_24 : decode cX7_pass 24 = .ok (.aload_n 0, 1) := by decide +kernel
theorem dX7_pass_25 : decode cX7_pass 25 = .ok (.getfield 7, 3) := by decide +kernel
theorem dX7_pass_28 : decode cX7_pass 28 = .ok (.iconst 4, 1) := by decide +kernel
theorem dX7_pass_29 : decode cX7_pass 29 = .ok (.iaload, 1) := by decide +kernel
theorem dX7_pass_30 : decode cX7_pass 30 = .ok (.ireturn, 1) := by decide +kernel
theorem eX7_pass {W : zWd} {a : Int → Int} {T n : Int} {K : Nat → (Int → Int)}  {Q : Option Value → zWd → Prop} {X : zX} (ha : W 117 = a) (hw : zWf T a) (hH : zKp W n K) (hq : ∀ W' : zWd, zOfM W W' → W' 116 7 = 0 → zKp W' (if n + 1 < 8 then n + 1 else 8) (zPush a K) → W' 117 = aEnd a (a 4) 0 → Q (some (zI ((a 4 + 1) % a 2))) W')  : Ev MX7_pass 2 0 W [.ref 116] Q X := by
  refine ev_of (ls := [.ref 116]) (by decide) rfl (fun _ => rfl) (fun _ => Nat.le_of_ble_eq_true rfl) (Or.inl rfl) ?_
  obtain ⟨w0, w0', wW, w1, w2, w2', w3, w3', w4, w4', w5, w5', w6, w6', w7, w7', wS, wP, wT⟩ := id hw
  have wq := zWf.sq hw
  refine rr_aload_n (pc := 0) dX7_pass_0 rfl ?_
  refine rr_iconst (n := 0) dX7_pass_1 ?_
  refine rr_put (pc := 2) (ji := 7) dX7_pass_2 fX7_59 fp_7_7 zk_116 zr_116_7 rfl ?_
  have o1 : zOfM W (zup W 116 7 0) := zOfM.rf.up (by omega)
  have t1 : zup W 116 7 0 116 7 = 0 := zup_s
  have a1 : zup W 116 7 0 117 = a := (zup_other 117 (by decide)).trans ha
  have k1 : zKp (zup W 116 7 0) n K := hH.u (by decide)
  generalize zup W 116 7 0 = W1 at o1 t1 a1 k1 ⊢
  refine rr_aload_n (pc := 5) dX7_pass_5 rfl ?_
  refine rr_aload_n (pc := 6) dX7_pass_6 rfl ?_
  refine rr_getR (pc := 7) dX7_pass_7 fX7_7 zk_116 zr_116_0 ?_
  refine rr_inv0 (M' := MX7_keeps) (k := 116) (As := [_]) (pc := 10) dX7_pass_10 lX7_73 kX7_keeps vX7_keeps zk_116 (by decide) rfl (by decide) (by decide) (Nat.le_of_ble_eq_true rfl) rfl (eX7_keeps zk_117 (by decide) (by decide) (by decide) k1 (fun W2 o2 k2 => ?_))
  rw [a1] at k2
  have oA := o1.tr o2.M
  have tA : W2 116 7 = 0 := (o2.2 7 (by decide)).trans t1
  have a2 : W2 117 = a := (o2.1 117 (by decide) (by decide)).trans a1
  refine rr_aload_n (pc := 13) dX7_pass_13 rfl ?_
  refine rr_aload_n (pc := 14) dX7_pass_14 rfl ?_
  refine rr_getR (pc := 15) dX7_pass_15 fX7_7 zk_116 zr_116_0 ?_
  refine rr_iconst (n := 4) dX7_pass_18 ?_
  refine rr_iald (pc := 19) dX7_pass_19 zk_117 (by omega) (by omega) ?_
  rw [a2]
  refine rr_iconst (n := 0) dX7_pass_20 ?_
  refine rr_inv0 (M' := MX7_ends) (k := 116) (As := [_, _]) (pc := 21) dX7_pass_21 lX7_340 kX7_ends vX7_ends zk_116 (by decide) rfl (by decide) (by decide) (Nat.le_of_ble_eq_true rfl) rfl (eX7_ends a2 hw w4 w4' (fun W3 o3 e3 => ?_))
  refine rr_aload_n (pc := 24) dX7_pass_24 rfl ?_
  refine rr_getR (pc := 25) dX7_pass_25 fX7_7 zk_116 zr_116_0 ?_
  refine rr_iconst (n := 4) dX7_pass_28 ?_
  refine rr_iald (pc := 29) dX7_pass_29 zk_117 (by omega) (by omega) ?_
  rw [e3]
  exact rr_reti (pc := 30) dX7_pass_30 rfl rfl (show aEnd a (a 4) 0 4 = _ from iup_s) rfl (hq W3 (oA.tr o3.M) (by rw [o3 116 (by decide)]; exact tA) (k2.m o3) e3)
theorem aTurn_i {T : Int} {a : Int → Int} {pw sd j : Int} (hw : zWf T a) (hT : T + 26 ≤ 100000000) (hj : j = 0 ∨ j = 1 ∨ j = 2 ∨ j = 3) : aTurn a pw sd j = a j := aTurn_n hw hT (by omega) (by omega) (by omega) (by omega) (by omega)
theorem aTurn_4 {a : Int → Int} {T pw sd : Int} (hw : zWf T a) (hT : T + 26 ≤ 100000000) : aTurn a pw sd 4 = (a 4 + 1) % a 2 := by
  obtain ⟨-, h2, -⟩ := aTg_wf (pw := pw) (sd := sd) hw hT
  rw [aTurn_eq]
  show (aFlt (aTg a pw sd) (a 4) (aTfault a pw sd)) |> fun x => iup _ 4 ((a 4 + 1) % x 2) 4 = _
  show iup _ 4 _ 4 = _
  rw [iup_s, aFlt_n (by have := hw.2.2.2.2.2.2.2.2.1; omega) (by decide), h2]
/-- who has the crown -/
def vCr (w : Int) (a : Int → Int) : Int := if (aUnt w 300 1 a).1 = -1 then -1 else if (aUnt w 300 1 a).2 4 = 0 then a 2 - 1 else (aUnt w 300 1 a).2 4 - 1
theorem vBest_max {T : Int} {a : Int → Int} (hw : zWf T a) : (if 0 < vBest a (a 4) then vBest a (a 4) else 0) / 2 = aBp a ∧ (if 0 < vBest a (a 4) then vBest a (a 4) else 0) % 2 = aBs a ∧ -1 ≤ vBest a (a 4) ∧ vBest a (a 4) ≤ 201 := by
  have hm2 := hw.2.2.2.2.2.2.2.2.2.2.2.2.2.2.2.2.2.1 (a 4) hw.2.2.2.2.2.2.2.2.1 hw.2.2.2.2.2.2.2.2.2.1
  unfold zWfP at hm2
  unfold vBest aBp aBs
  by_cases z : aP a (a 4) 2 = 0
  · simp [z]
  · have h1 := aLp_rng hw (s := aP a (a 4) 2) (by omega) (by omega)
    have h2 := aSd_rng hw (s := aP a (a 4) 2) (by omega) (by omega)
    rw [if_neg z, if_neg z, if_neg z]
    split <;> omega
theorem dX7_plays_0 : decode cX7_plays 0 = .ok (.aload_n 0, 1) := by decide +kernel
theorem dX7_plays_1 : decode cX7_plays 1 = .ok (.getfield 16, 3) := by decide +kernel
theorem dX7_plays_4 : decode cX7_plays 4 = .ok (.iconst 0, 1) := by decide +kernel
theorem dX7_plays_5 : decode cX7_plays 5 = .ok (.aload_n 0, 1) := by decide +kernel
theorem dX7_plays_6 : decode cX7_plays 6 = .ok (.getfield 7, 3) := by decide +kernel
theorem dX7_plays_9 : decode cX7_plays 9 = .ok (.iconst 0, 1) := by decide +kernel
theorem dX7_plays_10 : decode cX7_plays 10 = .ok (.invokestatic 65, 3) := by decide +kernel
theorem dX7_plays_13 : decode cX7_plays 13 = .ok (.aload_n 0, 1) := by decide +kernel
theorem dX7_plays_14 : decode cX7_plays 14 = .ok (.iconst 0, 1) := by decide +kernel
theorem dX7_plays_15 : decode cX7_plays 15 = .ok (.putfield 315, 3) := by decide +kernel
theorem dX7_plays_18 : decode cX7_plays 18 = .ok (.iconst (-1), 1) := by decide +kernel
theorem dX7_plays_19 : decode cX7_plays 19 = .ok (.istore_n 2, 1) := by decide +kernel
theorem dX7_plays_20 : decode cX7_plays 20 = .ok (.iload_n 2, 1) := by decide +kernel
theorem dX7_plays_21 : decode cX7_plays 21 = .ok (.iconst (-1), 1) := by decide +kernel
theorem dX7_plays_22 : decode cX7_plays 22 = .ok (.if_icmp .ne 91, 3) := by decide +kernel
theorem dX7_plays_25 : decode cX7_plays 25 = .ok (.aload_n 0, 1) := by decide +kernel
theorem dX7_plays_26 : decode cX7_plays 26 = .ok (.getfield 315, 3) := by decide +kernel
theorem dX7_plays_29 : decode cX7_plays 29 = .ok (.sipush 300, 3) := by decide +kernel
theorem dX7_plays_32 : decode cX7_plays 32 = .ok (.if_icmp .ge 81, 3) := by decide +kernel
theorem dX7_plays_35 : decode cX7_plays 35 = .ok (.aload_n 0, 1) := by decide +kernel
theorem dX7_plays_36 : decode cX7_plays 36 = .ok (.getfield 7, 3) := by decide +kernel
theorem dX7_plays_39 : decode cX7_plays 39 = .ok (.iconst 4, 1) := by decide +kernel
theorem dX7_plays_40 : decode cX7_plays 40 = .ok (.iaload, 1) := by decide +kernel
theorem dX7_plays_41 : decode cX7_plays 41 = .ok (.istore_n 3, 1) := by decide +kernel
theorem dX7_plays_42 : decode cX7_plays 42 = .ok (.aload_n 0, 1) := by decide +kernel
theorem dX7_plays_43 : decode cX7_plays 43 = .ok (.iload_n 3, 1) := by decide +kernel
theorem dX7_plays_44 : decode cX7_plays 44 = .ok (.iconst 4, 1) := by decide +kernel
theorem dX7_plays_45 : decode cX7_plays 45 = .ok (.invokevirtual 154, 3) := by decide +kernel
theorem dX7_plays_48 : decode cX7_plays 48 = .ok (.istore 4, 2) := by decide +kernel
theorem dX7_plays_50 : decode cX7_plays 50 = .ok (.iconst 0, 1) := by decide +kernel
theorem dX7_plays_51 : decode cX7_plays 51 = .ok (.aload_n 0, 1) := by decide +kernel
theorem dX7_plays_52 : decode cX7_plays 52 = .ok (.iload_n 3, 1) := by decide +kernel
theorem dX7_plays_53 : decode cX7_plays 53 = .ok (.invokevirtual 303, 3) := by decide +kernel
theorem dX7_plays_56 : decode cX7_plays 56 = .ok (.invokestatic 318, 3) := by decide +kernel
theorem dX7_plays_59 : decode cX7_plays 59 = .ok (.istore 5, 2) := by decide +kernel
theorem dX7_plays_61 : decode cX7_plays 61 = .ok (.aload_n 0, 1) := by decide +kernel
theorem dX7_plays_62 : decode cX7_plays 62 = .ok (.aload_n 0, 1) := by decide +kernel
theorem dX7_plays_63 : decode cX7_plays 63 = .ok (.iload 5, 2) := by decide +kernel
theorem dX7_plays_65 : decode cX7_plays 65 = .ok (.iconst 2, 1) := by decide +kernel
theorem dX7_plays_66 : decode cX7_plays 66 = .ok (.idiv, 1) := by decide +kernel
theorem dX7_plays_67 : decode cX7_plays 67 = .ok (.iload 5, 2) := by decide +kernel
theorem dX7_plays_69 : decode cX7_plays 69 = .ok (.iconst 2, 1) := by decide +kernel
theorem dX7_plays_70 : decode cX7_plays 70 = .ok (.irem, 1) := by decide +kernel
theorem dX7_plays_71 : decode cX7_plays 71 = .ok (.invokevirtual 321, 3) := by decide +kernel
theorem dX7_plays_74 : decode cX7_plays 74 = .ok (.putfield 324, 3) := by decide +kernel
theorem dX7_plays_77 : decode cX7_plays 77 = .ok (.aload_n 0, 1) := by decide +kernel
theorem dX7_plays_78 : decode cX7_plays 78 = .ok (.dup, 1) := by decide +kernel
theorem dX7_plays_79 : decode cX7_plays 79 = .ok (.getfield 315, 3) := by decide +kernel
theorem dX7_plays_82 : decode cX7_plays 82 = .ok (.iconst 1, 1) := by decide +kernel
theorem dX7_plays_83 : decode cX7_plays 83 = .ok (.iadd, 1) := by decide +kernel
theorem dX7_plays_84 : decode cX7_plays 84 = .ok (.putfield 315, 3) := by decide +kernel
theorem dX7_plays_87 : decode cX7_plays 87 = .ok (.aload_n 0, 1) := by decide +kernel
theorem dX7_plays_88 : decode cX7_plays 88 = .ok (.iload_n 3, 1) := by decide +kernel
theorem dX7_plays_89 : decode cX7_plays 89 = .ok (.iconst 4, 1) := by decide +kernel
theorem dX7_plays_90 : decode cX7_plays 90 = .ok (.invokevirtual 154, 3) := by decide +kernel
theorem dX7_plays_93 : decode cX7_plays 93 = .ok (.iload 4, 2) := by decide +kernel
theorem dX7_plays_95 : decode cX7_plays 95 = .ok (.if_icmp .le 15, 3) := by decide +kernel
theorem dX7_plays_98 : decode cX7_plays 98 = .ok (.iload_n 1, 1) := by decide +kernel
theorem dX7_plays_99 : decode cX7_plays 99 = .ok (.iconst (-1), 1) := by decide +kernel
theorem dX7_plays_100 : decode cX7_plays 100 = .ok (.if_icmp .eq 8, 3) := by decide +kernel
theorem dX7_plays_103 : decode cX7_plays 103 = .ok (.iload_n 1, 1) := by decide +kernel
theorem dX7_plays_104 : decode cX7_plays 104 = .ok (.iload_n 3, 1) := by decide +kernel
theorem dX7_plays_105 : decode cX7_plays 105 = .ok (.if_icmp .ne 5, 3) := by decide +kernel
theorem dX7_plays_108 : decode cX7_plays 108 = .ok (.iload_n 3, 1) := by decide +kernel
theorem dX7_plays_109 : decode cX7_plays 109 = .ok (.istore_n 2, 1) := by decide +kernel
theorem dX7_plays_110 : decode cX7_plays 110 = .ok (.goto (-90), 3) := by decide +kernel
theorem dX7_plays_113 : decode cX7_plays 113 = .ok (.aload_n 0, 1) := by decide +kernel
theorem dX7_plays_114 : decode cX7_plays 114 = .ok (.getfield 7, 3) := by decide +kernel
theorem dX7_plays_117 : decode cX7_plays 117 = .ok (.iconst 0, 1) := by decide +kernel
theorem dX7_plays_118 : decode cX7_plays 118 = .ok (.aload_n 0, 1) := by decide +kernel
theorem dX7_plays_119 : decode cX7_plays 119 = .ok (.getfield 16, 3) := by decide +kernel
theorem dX7_plays_122 : decode cX7_plays 122 = .ok (.iconst 0, 1) := by decide +kernel
theorem dX7_plays_123 : decode cX7_plays 123 = .ok (.invokestatic 65, 3) := by decide +kernel
theorem dX7_plays_126 : decode cX7_plays 126 = .ok (.iload_n 2, 1) := by decide +kernel
theorem dX7_plays_127 : decode cX7_plays 127 = .ok (.ireturn, 1) := by decide +kernel
theorem eX7_plays {W : zWd} {a : Int → Int} {T w : Int}  {Q : Option Value → zWd → Prop} {X : zX} (ha : W 117 = a) (hw : zWf T a) (hT : T + 8000 ≤ 100000000) (hwz : zR w) (hq : ∀ W' : zWd, zOfM W W' → W' 116 7 = W 116 7 → W' 116 6 = W 116 6 → W' 120 = W 120 → (∀ i : Int, 0 ≤ i → i < 160 → W' 117 i = a i) → ((vCr w a = -1 ∧ (aUnt w 300 1 a).1 = -1) ∨ (W' 116 22 = (aUnt w 300 1 a).1 ∧ vCr w a ≠ -1)) → Q (some (zI (vCr w a))) W') : Ev MX7_plays 8 0 W [.ref 116, zI w] Q X := by
  refine ev_of (ls := [.ref 116, zI w, .null, .null, .null, .null]) (by decide) rfl (fun _ => rfl) (fun _ => Nat.le_of_ble_eq_true rfl) (Or.inl rfl) ?_
  have fin2 : ∀ (Wi : zWd) (x3 x4 x5 : Value), zOfM W Wi → Wi 116 7 = W 116 7 → Wi 116 6 = W 116 6 → Wi 120 = W 120 → (∀ i : Int, 0 ≤ i → i < 160 → Wi 119 i = a i) → zR (vCr w a) → ((vCr w a = -1 ∧ (aUnt w 300 1 a).1 = -1) ∨ (Wi 116 22 = (aUnt w 300 1 a).1 ∧ vCr w a ≠ -1)) → RR MX7_plays 8 0 Wi 113 [.ref 116, zI w, zI (vCr w a), x3, x4, x5] [] (zEnd MX7_plays Q X) X := by
    intro Wi x3 x4 x5 hO e7 e6 e120 hd hr hv
    refine rr_aload_n (pc := 113) dX7_plays_113 rfl ?_
    refine rr_getR (pc := 114) dX7_plays_114 fX7_7 zk_116 zr_116_0 ?_
    refine rr_iconst (n := 0) dX7_plays_117 ?_
    refine rr_aload_n (pc := 118) dX7_plays_118 rfl ?_
    refine rr_getR (pc := 119) dX7_plays_119 fX7_16 zk_116 zr_116_2 ?_
    refine rr_iconst (n := 0) dX7_plays_122 ?_
    refine rr_sta0 (M' := MX7_copies) (As := [_, _, _, _]) (pc := 123) dX7_plays_123 lX7_65 kX7_copies sX7_copies (by decide) (by decide) (Nat.le_of_ble_eq_true rfl) rfl (eX7_copies (W := Wi) (n1 := 160) (n0 := 160) zk_117 zk_119 (by decide) (by omega) (by omega) (by omega) (by omega) ?_)
    refine rr_iload_n (pc := 126) dX7_plays_126 rfl ?_
    exact rr_reti (pc := 127) dX7_plays_127 rfl rfl rfl rfl (hq _ ⟨fun k g1 g2 g3 g4 g5 g6 g7 g8 => by rw [zC160_o g2]; exact hO.1 k g1 g2 g3 g4 g5 g6 g7 g8, fun j g1 g2 g3 g4 g5 g6 g7 => by rw [zC160_o (by decide)]; exact hO.2 j g1 g2 g3 g4 g5 g6 g7⟩ (by rw [zC160_o (by decide)]; exact e7) (by rw [zC160_o (by decide)]; exact e6) (by rw [zC160_o (by decide)]; exact e120) (fun i g1 g2 => by unfold zC160; rw [if_pos ⟨rfl, by omega, by omega⟩]; exact (congrArg (Wi 119) (show 0 + (i - 0) = i by omega)).trans (hd i g1 g2)) (by rw [zC160_o (by decide)]; exact hv))
  have fin : ∀ (Wi : zWd) (x3 x4 x5 : Value), zOfM W Wi → Wi 116 7 = W 116 7 → Wi 116 6 = W 116 6 → Wi 120 = W 120 → (∀ i : Int, 0 ≤ i → i < 160 → Wi 119 i = a i) → -1 < vCr w a ∧ vCr w a ≤ 1000 → ((vCr w a = -1 ∧ (aUnt w 300 1 a).1 = -1) ∨ (Wi 116 22 = (aUnt w 300 1 a).1 ∧ vCr w a ≠ -1)) → RR MX7_plays 8 0 Wi 20 [.ref 116, zI w, zI (vCr w a), x3, x4, x5] [] (zEnd MX7_plays Q X) X := by
    intro Wi x3 x4 x5 hO e7 e6 e120 hd hr0 hv
    have hr : zR (vCr w a) := by unfold zR; omega
    refine rr_iload_n (pc := 20) dX7_plays_20 rfl ?_
    refine rr_iconst (n := (-1)) dX7_plays_21 ?_
    refine rr_icmp_ne (pc := 22) (tgt := 113) dX7_plays_22 (by decide) hr (by unfold zR; omega) (fun h22 => ?_) (fun h22 => ?_)
    · exact fin2 Wi _ _ _ hO e7 e6 e120 hd hr hv
    · omega
  have loop : ∀ (n : Nat) (m : Nat) (Wi : zWd) (x3 x4 x5 : Value), m ≤ 300 → zOfM W Wi → zWf (T + 26 * (m : Int)) (Wi 117) → Wi 117 2 = a 2 → Wi 116 22 = (m : Int) → Wi 116 7 = W 116 7 → Wi 116 6 = W 116 6 → Wi 120 = W 120 → (∀ i : Int, 0 ≤ i → i < 160 → Wi 119 i = a i) → aUnt w (300 - m) ((m : Int) + 1) (Wi 117) = aUnt w 300 1 a → 300 - m < n → RR MX7_plays 8 0 Wi 20 [.ref 116, zI w, zI (-1), x3, x4, x5] [] (zEnd MX7_plays Q X) X := by
    intro n
    induction n with
    | zero => intro m Wi x3 x4 x5 _ _ _ _ _ _ _ _ _ _ hm9; omega
    | succ n ih =>
      intro m Wi x3 x4 x5 hm hO hF e2a e22 e7 e6 e120 hd hL hm9
      refine rr_iload_n (pc := 20) dX7_plays_20 rfl ?_
      refine rr_iconst (n := (-1)) dX7_plays_21 ?_
      refine rr_icmp_ne (pc := 22) (tgt := 113) dX7_plays_22 (by decide) (by unfold zR; omega) (by unfold zR; omega) (fun h22 => ?_) (fun h22 => ?_)
      · exact absurd rfl h22
      · refine rr_aload_n (pc := 25) dX7_plays_25 rfl ?_
        refine rr_getI (pc := 26) (ji := 22) dX7_plays_26 fX7_315 zk_116 zr_116_22 rfl ?_
        rw [e22]
        refine rr_sipush (n := (300)) dX7_plays_29 ?_
        refine rr_icmp_ge (pc := 32) (tgt := 113) dX7_plays_32 (by decide) (by unfold zR; omega) (by unfold zR; omega) (fun h32 => ?_) (fun h32 => ?_)
        · have hm3 : m = 300 := by omega
          subst hm3
          have hL : ((-1 : Int), Wi 117) = aUnt w 300 1 a := hL
          have hv : vCr w a = -1 := by unfold vCr; rw [← hL, if_pos rfl]
          rw [show zI (-1) = zI (vCr w a) by rw [hv]]
          exact fin2 Wi _ _ _ hO e7 e6 e120 hd (by rw [hv]; unfold zR; omega) (Or.inl ⟨hv, by rw [← hL]⟩)
        · refine rr_aload_n (pc := 35) dX7_plays_35 rfl ?_
          refine rr_getR (pc := 36) dX7_plays_36 fX7_7 zk_116 zr_116_0 ?_
          refine rr_iconst (n := 4) dX7_plays_39 ?_
          obtain ⟨w0, w0', wW, w1, w2, w2', w3, w3', w4, w4', w5, w5', w6, w6', w7, w7', wS, wP, wT⟩ := id hF
          have hm2 := wP (Wi 117 4) w4 w4'
          unfold zWfP at hm2
          obtain ⟨b1, b2, b3, b4⟩ := vBest_max hF
          have b5 := aB_rng hF
          obtain ⟨r9, hr9⟩ : ∃ r, r = aUnt w 300 1 a := ⟨_, rfl⟩
          rw [← hr9, show 300 - m = (300 - (m + 1)) + 1 by omega] at hL
          unfold aUnt at hL
          refine rr_iald (pc := 40) dX7_plays_40 zk_117 (by omega) (by omega) ?_
          refine rr_istore_n (pc := 41) dX7_plays_41 (by decide) ?_
          refine rr_aload_n (pc := 42) dX7_plays_42 rfl ?_
          refine rr_iload_n (pc := 43) dX7_plays_43 rfl ?_
          refine rr_iconst (n := 4) dX7_plays_44 ?_
          refine rr_inv0 (M' := MX7_of) (k := 116) (As := [_, _]) (pc := 45) dX7_plays_45 lX7_154 kX7_of vX7_of zk_116 (by decide) rfl (by decide) (by decide) (Nat.le_of_ble_eq_true rfl) rfl (eX7_of (by omega) (by omega) (by omega) (by omega) ?_)
          refine rr_istore (pc := 48) dX7_plays_48 (by decide) ?_
          refine rr_iconst (n := 0) dX7_plays_50 ?_
          refine rr_aload_n (pc := 51) dX7_plays_51 rfl ?_
          refine rr_iload_n (pc := 52) dX7_plays_52 rfl ?_
          refine rr_inv0 (M' := MX7_bestOf) (k := 116) (As := [_]) (pc := 53) dX7_plays_53 lX7_303 kX7_bestOf vX7_bestOf zk_116 (by decide) rfl (by decide) (by decide) (Nat.le_of_ble_eq_true rfl) rfl (eX7_bestOf rfl hF w4 w4' ?_)
          refine rr_max (pc := 56) dX7_plays_56 lX7_318 z_mmax (by unfold zR; omega) (by unfold zR; omega) (by decide) (Nat.le_of_ble_eq_true rfl) ?_
          have hmx : 0 ≤ (if 0 < vBest (Wi 117) (Wi 117 4) then vBest (Wi 117) (Wi 117 4) else 0) ∧ (if 0 < vBest (Wi 117) (Wi 117 4) then vBest (Wi 117) (Wi 117 4) else 0) ≤ 201 := by split <;> omega
          generalize (if 0 < vBest (Wi 117) (Wi 117 4) then vBest (Wi 117) (Wi 117 4) else 0) = its at b1 b2 hmx ⊢
          refine rr_istore (pc := 59) dX7_plays_59 (by decide) ?_
          refine rr_aload_n (pc := 61) dX7_plays_61 rfl ?_
          refine rr_aload_n (pc := 62) dX7_plays_62 rfl ?_
          refine rr_iload (pc := 63) dX7_plays_63 rfl ?_
          refine rr_iconst (n := 2) dX7_plays_65 ?_
          refine rr_idiv (pc := 66) dX7_plays_66 (by omega) (by omega) (by omega) (by omega) ?_
          rw [b1]
          refine rr_iload (pc := 67) dX7_plays_67 rfl ?_
          refine rr_iconst (n := 2) dX7_plays_69 ?_
          refine rr_irem (pc := 70) dX7_plays_70 (by omega) (by omega) (by omega) (by omega) ?_
          rw [b2]
          refine rr_inv0 (M' := MX7_turns) (k := 116) (As := [_, _]) (pc := 71) dX7_plays_71 lX7_321 kX7_turns vX7_turns zk_116 (by decide) rfl (by decide) (by decide) (Nat.le_of_ble_eq_true rfl) rfl (eX7_turns rfl hF (by omega) b5.1 (by omega) b5.2.2.1 b5.2.2.2 (fun W2 o2 e2 => ?_))
          have e2 : W2 117 = aNext (Wi 117) := e2
          generalize aTfault (Wi 117) (aBp (Wi 117)) (aBs (Wi 117)) = tf
          refine rr_put (pc := 74) (ji := 23) dX7_plays_74 fX7_324 fp_7_23 zk_116 zr_116_23 rfl ?_
          have oA : zOfM W (zup W2 116 23 tf) := (hO.tr o2.M).up (by omega)
          have eA : zup W2 116 23 tf 117 = aNext (Wi 117) := (zup_other 117 (by decide)).trans e2
          have kA : zup W2 116 23 tf 116 22 = m := by rw [zup_i (by decide), o2.2 22 (by decide) (by decide) (by decide)]; exact e22
          have tA : zup W2 116 23 tf 116 7 = W 116 7 := by rw [zup_i (by decide), o2.2 7 (by decide) (by decide) (by decide)]; exact e7
          have xA : zup W2 116 23 tf 116 6 = W 116 6 := by rw [zup_i (by decide), o2.2 6 (by decide) (by decide) (by decide)]; exact e6
          have yA : zup W2 116 23 tf 119 = Wi 119 := by rw [zup_other 119 (by decide), o2.1 119 (by decide) (by decide) (by decide) (by decide) (by decide)]
          have zA : zup W2 116 23 tf 120 = W 120 := by rw [zup_other 120 (by decide), o2.1 120 (by decide) (by decide) (by decide) (by decide) (by decide)]; exact e120
          generalize zup W2 116 23 tf = W3 at oA eA kA tA xA yA zA ⊢
          refine rr_aload_n (pc := 77) dX7_plays_77 rfl ?_
          refine rr_dup_r (pc := 78) dX7_plays_78 ?_
          refine rr_getI (pc := 79) (ji := 22) dX7_plays_79 fX7_315 zk_116 zr_116_22 rfl ?_
          rw [kA]
          refine rr_iconst (n := 1) dX7_plays_82 ?_
          refine rr_iadd (pc := 83) dX7_plays_83 ?_
          refine rr_put (pc := 84) (ji := 22) dX7_plays_84 fX7_315 fp_7_22 zk_116 zr_116_22 rfl ?_
          have oB : zOfM W (zup W3 116 22 (m + 1)) := oA.up (by omega)
          have eB : zup W3 116 22 (m + 1) 117 = aNext (Wi 117) := (zup_other 117 (by decide)).trans eA
          have kB : zup W3 116 22 (m + 1) 116 22 = (m : Int) + 1 := zup_s
          have tB : zup W3 116 22 (m + 1) 116 7 = W 116 7 := (zup_i (by decide)).trans tA
          have xB : zup W3 116 22 (m + 1) 116 6 = W 116 6 := (zup_i (by decide)).trans xA
          have yB : zup W3 116 22 (m + 1) 119 = Wi 119 := (zup_other 119 (by decide)).trans yA
          have zB : zup W3 116 22 (m + 1) 120 = W 120 := (zup_other 120 (by decide)).trans zA
          have fB := aNext_wf hF (by omega)
          have hmB := fB.2.2.2.2.2.2.2.2.2.2.2.2.2.2.2.2.2.1 (Wi 117 4) w4 (by rw [show aNext (Wi 117) 2 = Wi 117 2 from aTurn_i hF (by omega) (by omega)]; exact w4')
          unfold zWfP at hmB
          generalize zup W3 116 22 (m + 1) = W4 at oB eB kB tB xB yB zB ⊢
          refine rr_aload_n (pc := 87) dX7_plays_87 rfl ?_
          refine rr_iload_n (pc := 88) dX7_plays_88 rfl ?_
          refine rr_iconst (n := 4) dX7_plays_89 ?_
          refine rr_inv0 (M' := MX7_of) (k := 116) (As := [_, _]) (pc := 90) dX7_plays_90 lX7_154 kX7_of vX7_of zk_116 (by decide) rfl (by decide) (by decide) (Nat.le_of_ble_eq_true rfl) rfl (eX7_of (by omega) (by omega) (by omega) (by omega) ?_)
          rw [eB]
          refine rr_iload (pc := 93) dX7_plays_93 rfl ?_
          refine rr_icmp_le (pc := 95) (tgt := 110) dX7_plays_95 (by decide) (by unfold zR; omega) (by unfold zR; omega) (fun h95 => ?_) (fun h95 => ?_)
          · refine rr_goto (pc := 110) (tgt := 20) dX7_plays_110 (by decide) ?_
            rw [if_neg (by omega), hr9] at hL
            exact ih (m + 1) W4 _ _ _ (by omega) oB (by rw [eB, show T + 26 * ((m + 1 : Nat) : Int) = T + 26 * (m : Int) + 26 by omega]; exact fB) (by rw [eB, show aNext (Wi 117) 2 = Wi 117 2 from aTurn_i hF (by omega) (by omega)]; exact e2a) (by rw [kB]; omega) tB xB zB (by rw [yB]; exact hd) (by rw [eB, show ((m + 1 : Nat) : Int) + 1 = (m : Int) + 1 + 1 by omega]; exact hL) (by omega)
          · refine rr_iload_n (pc := 98) dX7_plays_98 rfl ?_
            refine rr_iconst (n := (-1)) dX7_plays_99 ?_
            refine rr_icmp_eq (pc := 100) (tgt := 108) dX7_plays_100 (by decide) hwz (by unfold zR; omega) (fun h100 => ?_) (fun h100 => ?_)
            · refine rr_iload_n (pc := 108) dX7_plays_108 rfl ?_
              refine rr_istore_n (pc := 109) dX7_plays_109 (by decide) ?_
              refine rr_goto (pc := 110) (tgt := 20) dX7_plays_110 (by decide) ?_
              rw [if_pos ⟨by omega, by omega⟩, hr9] at hL
              have h48 : (aNext (Wi 117)) 4 = (Wi 117 4 + 1) % Wi 117 2 := aTurn_4 hF (by omega)
              have hv : vCr w a = Wi 117 4 := by
                unfold vCr
                rw [← hL, if_neg (by show ¬ ((m : Int) + 1 = -1); omega)]
                show (if aNext (Wi 117) 4 = 0 then a 2 - 1 else aNext (Wi 117) 4 - 1) = _
                rw [h48]
                rcases (show Wi 117 4 + 1 < Wi 117 2 ∨ Wi 117 4 + 1 = Wi 117 2 by omega) with g | g
                · rw [Int.emod_eq_of_lt (by omega) g, if_neg (by omega)]; omega
                · rw [g, Int.emod_self, if_pos rfl]; omega
              rw [← hv]
              exact fin W4 _ _ _ oB tB xB zB (by rw [yB]; exact hd) (by rw [hv]; omega) (Or.inr ⟨by rw [← hL, kB], by rw [hv]; omega⟩)
            · refine rr_iload_n (pc := 103) dX7_plays_103 rfl ?_
              refine rr_iload_n (pc := 104) dX7_plays_104 rfl ?_
              refine rr_icmp_ne (pc := 105) (tgt := 110) dX7_plays_105 (by decide) hwz (by unfold zR; omega) (fun h105 => ?_) (fun h105 => ?_)
              · refine rr_goto (pc := 110) (tgt := 20) dX7_plays_110 (by decide) ?_
                rw [if_neg (by omega), hr9] at hL
                exact ih (m + 1) W4 _ _ _ (by omega) oB (by rw [eB, show T + 26 * ((m + 1 : Nat) : Int) = T + 26 * (m : Int) + 26 by omega]; exact fB) (by rw [eB, show aNext (Wi 117) 2 = Wi 117 2 from aTurn_i hF (by omega) (by omega)]; exact e2a) (by rw [kB]; omega) tB xB zB (by rw [yB]; exact hd) (by rw [eB, show ((m + 1 : Nat) : Int) + 1 = (m : Int) + 1 + 1 by omega]; exact hL) (by omega)
              · refine rr_iload_n (pc := 108) dX7_plays_108 rfl ?_
                refine rr_istore_n (pc := 109) dX7_plays_109 (by decide) ?_
                refine rr_goto (pc := 110) (tgt := 20) dX7_plays_110 (by decide) ?_
                rw [if_pos ⟨by omega, by omega⟩, hr9] at hL
                have h48 : (aNext (Wi 117)) 4 = (Wi 117 4 + 1) % Wi 117 2 := aTurn_4 hF (by omega)
                have hv : vCr w a = Wi 117 4 := by
                  unfold vCr
                  rw [← hL, if_neg (by show ¬ ((m : Int) + 1 = -1); omega)]
                  show (if aNext (Wi 117) 4 = 0 then a 2 - 1 else aNext (Wi 117) 4 - 1) = _
                  rw [h48]
                  rcases (show Wi 117 4 + 1 < Wi 117 2 ∨ Wi 117 4 + 1 = Wi 117 2 by omega) with g | g
                  · rw [Int.emod_eq_of_lt (by omega) g, if_neg (by omega)]; omega
                  · rw [g, Int.emod_self, if_pos rfl]; omega
                rw [← hv]
                exact fin W4 _ _ _ oB tB xB zB (by rw [yB]; exact hd) (by rw [hv]; omega) (Or.inr ⟨by rw [← hL, kB], by rw [hv]; omega⟩)
  refine rr_aload_n (pc := 0) dX7_plays_0 rfl ?_
  refine rr_getR (pc := 1) dX7_plays_1 fX7_16 zk_116 zr_116_2 ?_
  refine rr_iconst (n := 0) dX7_plays_4 ?_
  refine rr_aload_n (pc := 5) dX7_plays_5 rfl ?_
  refine rr_getR (pc := 6) dX7_plays_6 fX7_7 zk_116 zr_116_0 ?_
  refine rr_iconst (n := 0) dX7_plays_9 ?_
  refine rr_sta0 (M' := MX7_copies) (As := [_, _, _, _]) (pc := 10) dX7_plays_10 lX7_65 kX7_copies sX7_copies (by decide) (by decide) (Nat.le_of_ble_eq_true rfl) rfl (eX7_copies (W := W) (n1 := 160) (n0 := 160) zk_119 zk_117 (by decide) (by omega) (by omega) (by omega) (by omega) ?_)
  have o1 : zOfM W (zC160 W 119 117 0 0 160) := ⟨fun k g1 g2 g3 g4 g5 g6 g7 g8 => zC160_o g4, fun j _ _ _ _ _ _ _ => by rw [zC160_o (by decide)]⟩
  have a1 : zC160 W 119 117 0 0 160 117 = a := (zC160_o (by decide)).trans ha
  have d1 : ∀ i : Int, 0 ≤ i → i < 160 → zC160 W 119 117 0 0 160 119 i = a i := fun i g1 g2 => by unfold zC160; rw [if_pos ⟨rfl, by omega, by omega⟩, ha]; congr 1; omega
  have t1 : zC160 W 119 117 0 0 160 116 = W 116 := zC160_o (by decide)
  have k1 : zC160 W 119 117 0 0 160 120 = W 120 := zC160_o (by decide)
  generalize zC160 W 119 117 0 0 160 = W1 at o1 a1 d1 t1 k1 ⊢
  refine rr_aload_n (pc := 13) dX7_plays_13 rfl ?_
  refine rr_iconst (n := 0) dX7_plays_14 ?_
  refine rr_put (pc := 15) (ji := 22) dX7_plays_15 fX7_315 fp_7_22 zk_116 zr_116_22 rfl ?_
  refine rr_iconst (n := (-1)) dX7_plays_18 ?_
  refine rr_istore_n (pc := 19) dX7_plays_19 (by decide) ?_
  exact loop _ 0 _ _ _ _ (by omega) (o1.up (by omega)) (by rw [zup_other 117 (by decide), a1, show T + 26 * ((0 : Nat) : Int) = T by omega]; exact hw) (by rw [zup_other 117 (by decide), a1]) zup_s (by rw [zup_i (by decide), t1]) (by rw [zup_i (by decide), t1]) (by rw [zup_other 120 (by decide), k1]) (fun i g1 g2 => by rw [zup_other 119 (by decide)]; exact d1 i g1 g2) (by rw [zup_other 117 (by decide), a1]; rfl) (Nat.lt_succ_self _)
