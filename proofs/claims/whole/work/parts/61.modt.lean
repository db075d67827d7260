theorem vFt_eq {T : Int} {a : Int → Int} {p r : Int} (hw : zWf T a) (hp0 : 0 ≤ p) (hp1 : p < a 2) (h0 : 0 ≤ r) (h1 : r < a 0) : zFo (aF a r.toNat).toNat (a (8 + r)) (aUse a p (aP a p 5)) (fun i => decide (aO a i = p)) = vFt a p r := by
  have hri := aRow_in hw h0 h1
  have hww := hw.2.2.1 r h0 h1
  have hfl := aF_lo hw (r := r.toNat) (by omega)
  have hsq := zWf.sq hw
  have ku : ∀ i : Nat, 1 ≤ i → (i : Int) ≤ a 1 → aUse a p (aP a p 5) i = (aUset a p (zMks a (-1) (a 2).toNat)).testBit i := fun i g1 g2 => by
    have h9 := aUm_pr (own := aP a p 5) (s := (i : Int)) hw hp0 hp1 rfl (by omega) g2
    unfold aUm aPr at h9
    rw [Int.toNat_natCast] at h9
    exact h9.symm
  have ko : ∀ i : Nat, 1 ≤ i → (i : Int) ≤ a 1 → decide (aO a i = p) = (zSet (fun s => decide (aO a s = p)) (a 1).toNat).testBit i := fun i g1 g2 => by
    rw [zSet_bit, decide_eq_true (show 1 ≤ i ∧ i ≤ (a 1).toNat by omega), Bool.true_and]
  unfold vFt
  exact zFo_cg (ku _ (by omega) (by omega)) (ko _ (by omega) (by omega)) (fun h => ku _ (by omega) (by omega)) (fun h => ko _ (by omega) (by omega))
theorem dX7_footing_0 : decode cX7_footing 0 = .ok (.aload_n 0, 1) := by decide +kernel
theorem dX7_footing_1 : decode cX7_footing 1 = .ok (.aload_n 0, 1) := by decide +kernel
theorem dX7_footing_2 : decode cX7_footing 2 = .ok (.iload_n 1, 1) := by decide +kernel
theorem dX7_footing_3 : decode cX7_footing 3 = .ok (.invokevirtual 285, 3) := by decide +kernel
theorem dX7_footing_6 : decode cX7_footing 6 = .ok (.ifCond .eq 15, 3) := by decide +kernel
theorem dX7_footing_9 : decode cX7_footing 9 = .ok (.aload_n 0, 1) := by decide +kernel
theorem dX7_footing_10 : decode cX7_footing 10 = .ok (.iload_n 2, 1) := by decide +kernel
theorem dX7_footing_11 : decode cX7_footing 11 = .ok (.invokevirtual 294, 3) := by decide +kernel
theorem dX7_footing_14 : decode cX7_footing 14 = .ok (.ifCond .eq 7, 3) := by decide +kernel
theorem dX7_footing_17 : decode cX7_footing 17 = .ok (.iconst 0, 1) := by decide +kernel
theorem dX7_footing_18 : decode cX7_footing 18 = .ok (.goto 4, 3) := by decide +kernel
theorem dX7_footing_21 : decode cX7_footing 21 = .ok (.iconst 1, 1) := by decide +kernel
theorem dX7_footing_22 : decode cX7_footing 22 = .ok (.putfield 59, 3) := by decide +kernel
theorem dX7_footing_25 : decode cX7_footing 25 = .ok (.aload_n 0, 1) := by decide +kernel
theorem dX7_footing_26 : decode cX7_footing 26 = .ok (.getfield 59, 3) := by decide +kernel
theorem dX7_footing_29 : decode cX7_footing 29 = .ok (.ifCond .le 7, 3) := by decide +kernel
theorem dX7_footing_32 : decode cX7_footing 32 = .ok (.iconst 0, 1) := by decide +kernel
theorem dX7_footing_33 : decode cX7_footing 33 = .ok (.goto 15, 3) := by decide +kernel
theorem dX7_footing_36 : decode cX7_footing 36 = .ok (.aload_n 0, 1) := by decide +kernel
theorem dX7_footing_37 : decode cX7_footing 37 = .ok (.iload_n 1, 1) := by decide +kernel
theorem dX7_footing_38 : decode cX7_footing 38 = .ok (.iload_n 2, 1) := by decide +kernel
theorem dX7_footing_39 : decode cX7_footing 39 = .ok (.aload_n 0, 1) := by decide +kernel
theorem dX7_footing_40 : decode cX7_footing 40 = .ok (.iload_n 1, 1) := by decide +kernel
theorem dX7_footing_41 : decode cX7_footing 41 = .ok (.iconst 5, 1) := by decide +kernel
theorem dX7_footing_42 : decode cX7_footing 42 = .ok (.invokevirtual 154, 3) := by decide +kernel
theorem dX7_footing_45 : decode cX7_footing 45 = .ok (.invokevirtual 252, 3) := by decide +kernel
theorem dX7_footing_48 : decode cX7_footing 48 = .ok (.ireturn, 1) := by decide +kernel
theorem eX7_footing {W : zWd} {a : Int → Int} {T : Int} {p r : Int}  {Q : Option Value → zWd → Prop} {X : zX} (ha : W 117 = a) (hw : zWf T a) (hz : zR p) (hz2 : zR r) (hq : (0 ≤ p ∧ p < a 2) ∧ 0 ≤ r ∧ r < a 0 → ∀ W' : zWd, zOfQ W W' → W' 116 7 = 0 → Q (some (zI (vFt a p r))) W') (hq1 : ¬ ((0 ≤ p ∧ p < a 2) ∧ 0 ≤ r ∧ r < a 0) → ∀ W' : zWd, zOfQ W W' → W' 116 7 = 1 → Q (some (zI 0)) W')  : Ev MX7_footing 4 0 W [.ref 116, zI p, zI r] Q X := by
  refine ev_of (ls := [.ref 116, zI p, zI r]) (by decide) rfl (fun _ => rfl) (fun _ => Nat.le_of_ble_eq_true rfl) (Or.inl rfl) ?_
  obtain ⟨w0, w0', wW, w1, w2, w2', w3, w3', w4, w4', w5, w5', w6, w6', w7, w7', wS, wP, wT⟩ := id hw
  have wq := zWf.sq hw
  have hn2 : a 2 ≤ 6 := w2'
  refine rr_aload_n (pc := 0) dX7_footing_0 rfl ?_
  refine rr_aload_n (pc := 1) dX7_footing_1 rfl ?_
  refine rr_iload_n (pc := 2) dX7_footing_2 rfl ?_
  refine rr_inv0 (M' := MX7_isPlayer) (k := 116) (As := [_]) (pc := 3) dX7_footing_3 lX7_285 kX7_isPlayer vX7_isPlayer zk_116 (by decide) rfl (by decide) (by decide) (Nat.le_of_ble_eq_true rfl) rfl (eX7_isPlayer ha hw hz ?_)
  refine rr_if_eq (pc := 6) (tgt := 21) dX7_footing_6 (by decide) (by split <;> (unfold zR; omega)) (fun h6 => ?_) (fun h6 => ?_)
  · refine rr_iconst (n := 1) dX7_footing_21 ?_
    have hnp := z_i10 h6
    refine rr_put (pc := 22) (ji := 7) dX7_footing_22 fX7_59 fp_7_7 zk_116 zr_116_7 rfl ?_
    have o1 : zOfQ W (zup W 116 7 1) := zOfQ.t
    have t1 : zup W 116 7 1 116 7 = 1 := zup_s
    have a1 : zup W 116 7 1 117 = a := o1.a.trans ha
    generalize zup W 116 7 1 = W1 at o1 t1 a1 ⊢
    refine rr_aload_n (pc := 25) dX7_footing_25 rfl ?_
    refine rr_getI (pc := 26) (ji := 7) dX7_footing_26 fX7_59 zk_116 zr_116_7 rfl ?_
    rw [t1]
    refine rr_if_le (pc := 29) (tgt := 36) dX7_footing_29 (by decide) (by unfold zR; omega) (fun h29 => ?_) (fun h29 => ?_)
    · omega
    · refine rr_iconst (n := 0) dX7_footing_32 ?_
      refine rr_goto (pc := 33) (tgt := 48) dX7_footing_33 (by decide) ?_
      exact rr_reti (pc := 48) dX7_footing_48 rfl rfl rfl rfl (hq1 (fun z => hnp z.1) W1 o1 t1)
  · refine rr_aload_n (pc := 9) dX7_footing_9 rfl ?_
    refine rr_iload_n (pc := 10) dX7_footing_10 rfl ?_
    have hpl := z_i10n h6
    refine rr_inv0 (M' := MX7_isRowOf) (k := 116) (As := [_]) (pc := 11) dX7_footing_11 lX7_294 kX7_isRowOf vX7_isRowOf zk_116 (by decide) rfl (by decide) (by decide) (Nat.le_of_ble_eq_true rfl) rfl (eX7_isRowOf ha hw hz2 ?_)
    refine rr_if_eq (pc := 14) (tgt := 21) dX7_footing_14 (by decide) (by split <;> (unfold zR; omega)) (fun h14 => ?_) (fun h14 => ?_)
    · refine rr_iconst (n := 1) dX7_footing_21 ?_
      have hnr := z_i10 h14
      refine rr_put (pc := 22) (ji := 7) dX7_footing_22 fX7_59 fp_7_7 zk_116 zr_116_7 rfl ?_
      have o1 : zOfQ W (zup W 116 7 1) := zOfQ.t
      have t1 : zup W 116 7 1 116 7 = 1 := zup_s
      have a1 : zup W 116 7 1 117 = a := o1.a.trans ha
      generalize zup W 116 7 1 = W1 at o1 t1 a1 ⊢
      refine rr_aload_n (pc := 25) dX7_footing_25 rfl ?_
      refine rr_getI (pc := 26) (ji := 7) dX7_footing_26 fX7_59 zk_116 zr_116_7 rfl ?_
      rw [t1]
      refine rr_if_le (pc := 29) (tgt := 36) dX7_footing_29 (by decide) (by unfold zR; omega) (fun h29 => ?_) (fun h29 => ?_)
      · omega
      · refine rr_iconst (n := 0) dX7_footing_32 ?_
        refine rr_goto (pc := 33) (tgt := 48) dX7_footing_33 (by decide) ?_
        exact rr_reti (pc := 48) dX7_footing_48 rfl rfl rfl rfl (hq1 (fun z => hnr z.2) W1 o1 t1)
    · refine rr_iconst (n := 0) dX7_footing_17 ?_
      refine rr_goto (pc := 18) (tgt := 22) dX7_footing_18 (by decide) ?_
      have hro := z_i10n h14
      refine rr_put (pc := 22) (ji := 7) dX7_footing_22 fX7_59 fp_7_7 zk_116 zr_116_7 rfl ?_
      have o1 : zOfQ W (zup W 116 7 0) := zOfQ.t
      have t1 : zup W 116 7 0 116 7 = 0 := zup_s
      have a1 : zup W 116 7 0 117 = a := o1.a.trans ha
      generalize zup W 116 7 0 = W1 at o1 t1 a1 ⊢
      refine rr_aload_n (pc := 25) dX7_footing_25 rfl ?_
      refine rr_getI (pc := 26) (ji := 7) dX7_footing_26 fX7_59 zk_116 zr_116_7 rfl ?_
      rw [t1]
      refine rr_if_le (pc := 29) (tgt := 36) dX7_footing_29 (by decide) (by unfold zR; omega) (fun h29 => ?_) (fun h29 => ?_)
      · refine rr_aload_n (pc := 36) dX7_footing_36 rfl ?_
        refine rr_iload_n (pc := 37) dX7_footing_37 rfl ?_
        refine rr_iload_n (pc := 38) dX7_footing_38 rfl ?_
        refine rr_aload_n (pc := 39) dX7_footing_39 rfl ?_
        refine rr_iload_n (pc := 40) dX7_footing_40 rfl ?_
        refine rr_iconst (n := 5) dX7_footing_41 ?_
        have hp0 := hpl.1
        have hp1 := hpl.2
        have hm2 := wP p hp0 hp1
        unfold zWfP at hm2
        refine rr_inv0 (M' := MX7_of) (k := 116) (As := [_, _]) (pc := 42) dX7_footing_42 lX7_154 kX7_of vX7_of zk_116 (by decide) rfl (by decide) (by decide) (Nat.le_of_ble_eq_true rfl) rfl (eX7_of (by omega) (by omega) (by omega) (by omega) ?_)
        rw [a1]
        refine rr_inv0 (M' := MX7_footingOf) (k := 116) (As := [_, _, _]) (pc := 45) dX7_footing_45 lX7_252 kX7_footingOf vX7_footingOf zk_116 (by decide) rfl (by decide) (by decide) (Nat.le_of_ble_eq_true rfl) rfl (eX7_footingOf a1 hw hro.1 hro.2 hz (by unfold zR; omega) ?_)
        rw [vFt_eq hw hp0 hp1 hro.1 hro.2]
        exact rr_reti (pc := 48) dX7_footing_48 rfl rfl rfl rfl (hq ⟨hpl, hro⟩ W1 o1 t1)
      · omega
theorem zHp_pos {F : Nat → Int} {L must rc bal : Nat} : ∀ n k s, zV F L must rc bal k s < 1000000 → k ≤ L → ∀ x ∈ zHp F L must rc bal n k s, 1 ≤ x := by
  intro n
  induction n with
  | zero => intro k s _ _ x hx; cases hx
  | succ n ih =>
    intro k s hv hk x hx
    unfold zHp at hx
    by_cases q : k = L
    · rw [if_pos q] at hx; cases hx
    · rw [if_neg q] at hx
      obtain ⟨n1, n2, n3, n5, -, -⟩ := zNx_spec (F := F) (L := L) (must := must) (rc := rc) (bal := bal) (k := k) (run := s) (by omega) hv
      rcases List.mem_cons.mp hx with rfl | hx
      · omega
      · exact ih _ _ n5 n3.1 x hx
theorem aWay_pos {a : Int → Int} {q tg : Int} {rc : Nat} {bk : Int} : ∀ x ∈ aWay a q tg rc bk, 1 ≤ x := by
  intro x hx
  unfold aWay at hx
  split at hx
  · cases hx
  · unfold zWl at hx
    split at hx
    · exact zHp_pos _ 0 0 (by assumption) (Nat.zero_le _) x hx
    · cases hx
theorem aWay_0 {a : Int → Int} {q tg : Int} {rc : Nat} {bk : Int} (h : aCost a q tg rc bk = -1) : aWay a q tg rc bk = [] := by
  unfold aCost at h
  unfold aWay
  by_cases z : tg < 1 ∨ a 1 < tg
  · rw [if_pos z]
  · rw [if_neg z] at h ⊢
    unfold zWc at h
    unfold zWl
    by_cases y : zV (zWF a q tg bk) (a 0 + 1).toNat (zWm a tg bk) rc (aP a q 1).toNat 0 0 < 1000000
    · rw [if_pos y] at h
      have := zV_rng (F := zWF a q tg bk) (L := (a 0 + 1).toNat) (must := zWm a tg bk) (rc := rc) (bal := (aP a q 1).toNat) 0 0
      omega
    · rw [if_neg y]
theorem dX7_place_0 : decode cX7_place 0 = .ok (.aload_n 0, 1) := by decide +kernel
theorem dX7_place_1 : decode cX7_place 1 = .ok (.aload_n 0, 1) := by decide +kernel
theorem dX7_place_2 : decode cX7_place 2 = .ok (.iload_n 1, 1) := by decide +kernel
theorem dX7_place_3 : decode cX7_place 3 = .ok (.invokevirtual 285, 3) := by decide +kernel
theorem dX7_place_6 : decode cX7_place 6 = .ok (.ifCond .eq 11, 3) := by decide +kernel
theorem dX7_place_9 : decode cX7_place 9 = .ok (.iload_n 3, 1) := by decide +kernel
theorem dX7_place_10 : decode cX7_place 10 = .ok (.ifCond .lt 7, 3) := by decide +kernel
theorem dX7_place_13 : decode cX7_place 13 = .ok (.iconst 0, 1) := by decide +kernel
theorem dX7_place_14 : decode cX7_place 14 = .ok (.goto 4, 3) := by decide +kernel
theorem dX7_place_17 : decode cX7_place 17 = .ok (.iconst 1, 1) := by decide +kernel
theorem dX7_place_18 : decode cX7_place 18 = .ok (.putfield 59, 3) := by decide +kernel
theorem dX7_place_21 : decode cX7_place 21 = .ok (.aload_n 0, 1) := by decide +kernel
theorem dX7_place_22 : decode cX7_place 22 = .ok (.getfield 59, 3) := by decide +kernel
theorem dX7_place_25 : decode cX7_place 25 = .ok (.ifCond .le 5, 3) := by decide +kernel
theorem dX7_place_28 : decode cX7_place 28 = .ok (.iconst 0, 1) := by decide +kernel
theorem dX7_place_29 : decode cX7_place 29 = .ok (.ireturn, 1) := by decide +kernel
theorem dX7_place_30 : decode cX7_place 30 = .ok (.aload_n 0, 1) := by decide +kernel
theorem dX7_place_31 : decode cX7_place 31 = .ok (.iload_n 1, 1) := by decide +kernel
theorem dX7_place_32 : decode cX7_place 32 = .ok (.iload_n 2, 1) := by decide +kernel
theorem dX7_place_33 : decode cX7_place 33 = .ok (.invokevirtual 309, 3) := by decide +kernel
theorem dX7_place_36 : decode cX7_place 36 = .ok (.istore 4, 2) := by decide +kernel
theorem dX7_place_38 : decode cX7_place 38 = .ok (.iload 4, 2) := by decide +kernel
theorem dX7_place_40 : decode cX7_place 40 = .ok (.iconst (-1), 1) := by decide +kernel
theorem dX7_place_41 : decode cX7_place 41 = .ok (.if_icmp .eq 11, 3) := by decide +kernel
theorem dX7_place_44 : decode cX7_place 44 = .ok (.iload_n 3, 1) := by decide +kernel
theorem dX7_place_45 : decode cX7_place 45 = .ok (.aload_n 0, 1) := by decide +kernel
theorem dX7_place_46 : decode cX7_place 46 = .ok (.getfield 260, 3) := by decide +kernel
theorem dX7_place_49 : decode cX7_place 49 = .ok (.if_icmp .lt 5, 3) := by decide +kernel
theorem dX7_place_52 : decode cX7_place 52 = .ok (.iconst (-1), 1) := by decide +kernel
theorem dX7_place_53 : decode cX7_place 53 = .ok (.ireturn, 1) := by decide +kernel
theorem dX7_place_54 : decode cX7_place 54 = .ok (.aload_n 0, 1) := by decide +kernel
theorem dX7_place_55 : decode cX7_place 55 = .ok (.getfield 42, 3) := by decide +kernel
theorem dX7_place_58 : decode cX7_place 58 = .ok (.iload_n 3, 1) := by decide +kernel
theorem dX7_place_59 : decode cX7_place 59 = .ok (.iaload, 1) := by decide +kernel
theorem dX7_place_60 : decode cX7_place 60 = .ok (.aload_n 0, 1) := by decide +kernel
theorem dX7_place_61 : decode cX7_place 61 = .ok (.invokevirtual 231, 3) := by decide +kernel
theorem dX7_place_64 : decode cX7_place 64 = .ok (.if_icmp .ne 12, 3) := by decide +kernel
theorem dX7_place_67 : decode cX7_place 67 = .ok (.iload_n 2, 1) := by decide +kernel
theorem dX7_place_68 : decode cX7_place 68 = .ok (.ifCond .eq 8, 3) := by decide +kernel
theorem dX7_place_71 : decode cX7_place 71 = .ok (.bipush (-100), 2) := by decide +kernel
theorem dX7_place_73 : decode cX7_place 73 = .ok (.goto 14, 3) := by decide +kernel
theorem dX7_place_76 : decode cX7_place 76 = .ok (.aload_n 0, 1) := by decide +kernel
theorem dX7_place_77 : decode cX7_place 77 = .ok (.aload_n 0, 1) := by decide +kernel
theorem dX7_place_78 : decode cX7_place 78 = .ok (.getfield 42, 3) := by decide +kernel
theorem dX7_place_81 : decode cX7_place 81 = .ok (.iload_n 3, 1) := by decide +kernel
theorem dX7_place_82 : decode cX7_place 82 = .ok (.iaload, 1) := by decide +kernel
theorem dX7_place_83 : decode cX7_place 83 = .ok (.iload_n 2, 1) := by decide +kernel
theorem dX7_place_84 : decode cX7_place 84 = .ok (.invokevirtual 248, 3) := by decide +kernel
theorem dX7_place_87 : decode cX7_place 87 = .ok (.ireturn, 1) := by decide +kernel
theorem eX7_place {W : zWd} {a : Int → Int} {T : Int} {p b h : Int}  {Q : Option Value → zWd → Prop} {X : zX} (ha : W 117 = a) (hw : zWf T a) (hz : zR p) (hz2 : zR h) (hb : b = 0 ∨ b = 1) (hq : (0 ≤ p ∧ p < a 2) ∧ 0 ≤ h → ∀ W' : zWd, zOfQ W W' → W' 116 7 = 0 → Q (some (zI (vPlace a p b h))) W') (hq1 : ¬ ((0 ≤ p ∧ p < a 2) ∧ 0 ≤ h) → ∀ W' : zWd, zOfQ W W' → W' 116 7 = 1 → Q (some (zI 0)) W')  : Ev MX7_place 6 0 W [.ref 116, zI p, zI b, zI h] Q X := by
  refine ev_of (ls := [.ref 116, zI p, zI b, zI h, .null]) (by decide) rfl (fun _ => rfl) (fun _ => Nat.le_of_ble_eq_true rfl) (Or.inl rfl) ?_
  obtain ⟨w0, w0', wW, w1, w2, w2', w3, w3', w4, w4', w5, w5', w6, w6', w7, w7', wS, wP, wT⟩ := id hw
  have wq := zWf.sq hw
  have hn2 : a 2 ≤ 6 := w2'
  refine rr_aload_n (pc := 0) dX7_place_0 rfl ?_
  refine rr_aload_n (pc := 1) dX7_place_1 rfl ?_
  refine rr_iload_n (pc := 2) dX7_place_2 rfl ?_
  refine rr_inv0 (M' := MX7_isPlayer) (k := 116) (As := [_]) (pc := 3) dX7_place_3 lX7_285 kX7_isPlayer vX7_isPlayer zk_116 (by decide) rfl (by decide) (by decide) (Nat.le_of_ble_eq_true rfl) rfl (eX7_isPlayer ha hw hz ?_)
  refine rr_if_eq (pc := 6) (tgt := 17) dX7_place_6 (by decide) (by split <;> (unfold zR; omega)) (fun h6 => ?_) (fun h6 => ?_)
  · refine rr_iconst (n := 1) dX7_place_17 ?_
    have hnp := z_i10 h6
    refine rr_put (pc := 18) (ji := 7) dX7_place_18 fX7_59 fp_7_7 zk_116 zr_116_7 rfl ?_
    have o1 : zOfQ W (zup W 116 7 1) := zOfQ.t
    have t1 : zup W 116 7 1 116 7 = 1 := zup_s
    have a1 : zup W 116 7 1 117 = a := o1.a.trans ha
    generalize zup W 116 7 1 = W1 at o1 t1 a1 ⊢
    refine rr_aload_n (pc := 21) dX7_place_21 rfl ?_
    refine rr_getI (pc := 22) (ji := 7) dX7_place_22 fX7_59 zk_116 zr_116_7 rfl ?_
    rw [t1]
    refine rr_if_le (pc := 25) (tgt := 30) dX7_place_25 (by decide) (by unfold zR; omega) (fun h25 => ?_) (fun h25 => ?_)
    · omega
    · refine rr_iconst (n := 0) dX7_place_28 ?_
      exact rr_reti (pc := 29) dX7_place_29 rfl rfl rfl rfl (hq1 (fun z => hnp z.1) W1 o1 t1)
  · refine rr_iload_n (pc := 9) dX7_place_9 rfl ?_
    have hpl := z_i10n h6
    refine rr_if_lt (pc := 10) (tgt := 17) dX7_place_10 (by decide) hz2 (fun h10 => ?_) (fun h10 => ?_)
    · refine rr_iconst (n := 1) dX7_place_17 ?_
      refine rr_put (pc := 18) (ji := 7) dX7_place_18 fX7_59 fp_7_7 zk_116 zr_116_7 rfl ?_
      have o1 : zOfQ W (zup W 116 7 1) := zOfQ.t
      have t1 : zup W 116 7 1 116 7 = 1 := zup_s
      have a1 : zup W 116 7 1 117 = a := o1.a.trans ha
      generalize zup W 116 7 1 = W1 at o1 t1 a1 ⊢
      refine rr_aload_n (pc := 21) dX7_place_21 rfl ?_
      refine rr_getI (pc := 22) (ji := 7) dX7_place_22 fX7_59 zk_116 zr_116_7 rfl ?_
      rw [t1]
      refine rr_if_le (pc := 25) (tgt := 30) dX7_place_25 (by decide) (by unfold zR; omega) (fun h25 => ?_) (fun h25 => ?_)
      · omega
      · refine rr_iconst (n := 0) dX7_place_28 ?_
        exact rr_reti (pc := 29) dX7_place_29 rfl rfl rfl rfl (hq1 (fun z => by have := z.2; omega) W1 o1 t1)
    · refine rr_iconst (n := 0) dX7_place_13 ?_
      refine rr_goto (pc := 14) (tgt := 18) dX7_place_14 (by decide) ?_
      refine rr_put (pc := 18) (ji := 7) dX7_place_18 fX7_59 fp_7_7 zk_116 zr_116_7 rfl ?_
      have o1 : zOfQ W (zup W 116 7 0) := zOfQ.t
      have t1 : zup W 116 7 0 116 7 = 0 := zup_s
      have a1 : zup W 116 7 0 117 = a := o1.a.trans ha
      generalize zup W 116 7 0 = W1 at o1 t1 a1 ⊢
      refine rr_aload_n (pc := 21) dX7_place_21 rfl ?_
      refine rr_getI (pc := 22) (ji := 7) dX7_place_22 fX7_59 zk_116 zr_116_7 rfl ?_
      rw [t1]
      refine rr_if_le (pc := 25) (tgt := 30) dX7_place_25 (by decide) (by unfold zR; omega) (fun h25 => ?_) (fun h25 => ?_)
      · refine rr_aload_n (pc := 30) dX7_place_30 rfl ?_
        refine rr_iload_n (pc := 31) dX7_place_31 rfl ?_
        refine rr_iload_n (pc := 32) dX7_place_32 rfl ?_
        have hp0 := hpl.1
        have hp1 := hpl.2
        refine rr_inv0 (M' := MX7_costOf) (k := 116) (As := [_, _]) (pc := 33) dX7_place_33 lX7_309 kX7_costOf vX7_costOf zk_116 (by decide) rfl (by decide) (by decide) (Nat.le_of_ble_eq_true rfl) rfl (eX7_costOf a1 hw hp0 hp1 hb (fun W2 o2 l2 => ?_))
        have hcr := @aCost_R a p (aP a p 2) b (aRc a p)
        have oA := o1.tr o2.Q
        have tA := o2.t7.trans t1
        have e7 : W2 117 = a := o2.a.trans a1
        have hln := aWay_len (a := a) (q := p) (tg := aP a p 2) (rc := aRc a p) (bk := b) (by omega) (by omega)
        refine rr_istore (pc := 36) dX7_place_36 (by decide) ?_
        refine rr_iload (pc := 38) dX7_place_38 rfl ?_
        refine rr_iconst (n := (-1)) dX7_place_40 ?_
        refine rr_icmp_eq (pc := 41) (tgt := 52) dX7_place_41 (by decide) (by unfold zR; omega) (by unfold zR; omega) (fun h41 => ?_) (fun h41 => ?_)
        · refine rr_iconst (n := (-1)) dX7_place_52 ?_
          exact rr_reti (pc := 53) dX7_place_53 rfl rfl (by unfold vPlace; rw [aWay_0 h41, if_neg (by simp; omega)]) rfl (hq ⟨hpl, by omega⟩ W2 oA tA)
        · refine rr_iload_n (pc := 44) dX7_place_44 rfl ?_
          refine rr_aload_n (pc := 45) dX7_place_45 rfl ?_
          refine rr_getI (pc := 46) (ji := 21) dX7_place_46 fX7_260 zk_116 zr_116_21 rfl ?_
          rw [l2.1]
          refine rr_icmp_lt (pc := 49) (tgt := 54) dX7_place_49 (by decide) hz2 (by unfold zR; omega) (fun h49 => ?_) (fun h49 => ?_)
          · refine rr_aload_n (pc := 54) dX7_place_54 rfl ?_
            refine rr_getR (pc := 55) dX7_place_55 fX7_42 zk_116 zr_116_19 ?_
            refine rr_iload_n (pc := 58) dX7_place_58 rfl ?_
            have hwy : W2 126 h = ((aWay a p (aP a p 2) (aRc a p) b).getD h.toNat 0 : Nat) := by
              have h9 := l2.2 h.toNat (by omega)
              rw [show ((h.toNat : Nat) : Int) = h by omega] at h9; exact h9
            have hmm : (aWay a p (aP a p 2) (aRc a p) b).getD h.toNat 0 ∈ aWay a p (aP a p 2) (aRc a p) b := by rw [List.getD_eq_getElem?_getD, List.getElem?_eq_getElem (show h.toNat < (aWay a p (aP a p 2) (aRc a p) b).length by omega)]; exact List.getElem_mem _
            have hm1 := aWay_pos _ hmm
            have hm2 := aWay_mem _ hmm
            refine rr_iald (pc := 59) dX7_place_59 zk_126 (by omega) (by omega) ?_
            rw [hwy]
            refine rr_aload_n (pc := 60) dX7_place_60 rfl ?_
            refine rr_inv0 (M' := MX7_last) (k := 116) (As := []) (pc := 61) dX7_place_61 lX7_231 kX7_last vX7_last zk_116 (by decide) rfl (by decide) (by decide) (Nat.le_of_ble_eq_true rfl) rfl (eX7_last ?_)
            rw [e7]
            refine rr_icmp_ne (pc := 64) (tgt := 76) dX7_place_64 (by decide) (by unfold zR; omega) (by unfold zR; omega) (fun h64 => ?_) (fun h64 => ?_)
            · refine rr_aload_n (pc := 76) dX7_place_76 rfl ?_
              refine rr_aload_n (pc := 77) dX7_place_77 rfl ?_
              refine rr_getR (pc := 78) dX7_place_78 fX7_42 zk_116 zr_116_19 ?_
              refine rr_iload_n (pc := 81) dX7_place_81 rfl ?_
              refine rr_iald (pc := 82) dX7_place_82 zk_126 (by omega) (by omega) ?_
              rw [hwy]
              refine rr_iload_n (pc := 83) dX7_place_83 rfl ?_
              refine rr_inv0 (M' := MX7_rowAt) (k := 116) (As := [_, _]) (pc := 84) dX7_place_84 lX7_248 kX7_rowAt vX7_rowAt zk_116 (by decide) rfl (by decide) (by decide) (Nat.le_of_ble_eq_true rfl) rfl (eX7_rowAt hb ?_)
              rw [e7]
              exact rr_reti (pc := 87) dX7_place_87 rfl rfl (by unfold vPlace; rw [if_pos h49, if_neg (by unfold zRa; split <;> omega)]) rfl (hq ⟨hpl, by omega⟩ W2 oA tA)
            · refine rr_iload_n (pc := 67) dX7_place_67 rfl ?_
              refine rr_if_eq (pc := 68) (tgt := 76) dX7_place_68 (by decide) (by unfold zR; omega) (fun h68 => ?_) (fun h68 => ?_)
              · refine rr_aload_n (pc := 76) dX7_place_76 rfl ?_
                refine rr_aload_n (pc := 77) dX7_place_77 rfl ?_
                refine rr_getR (pc := 78) dX7_place_78 fX7_42 zk_116 zr_116_19 ?_
                refine rr_iload_n (pc := 81) dX7_place_81 rfl ?_
                refine rr_iald (pc := 82) dX7_place_82 zk_126 (by omega) (by omega) ?_
                rw [hwy]
                refine rr_iload_n (pc := 83) dX7_place_83 rfl ?_
                refine rr_inv0 (M' := MX7_rowAt) (k := 116) (As := [_, _]) (pc := 84) dX7_place_84 lX7_248 kX7_rowAt vX7_rowAt zk_116 (by decide) rfl (by decide) (by decide) (Nat.le_of_ble_eq_true rfl) rfl (eX7_rowAt hb ?_)
                rw [e7]
                exact rr_reti (pc := 87) dX7_place_87 rfl rfl (by unfold vPlace; rw [if_pos h49, if_neg (by unfold zRa; split <;> omega)]) rfl (hq ⟨hpl, by omega⟩ W2 oA tA)
              · refine rr_bipush (n := (-100)) dX7_place_71 ?_
                refine rr_goto (pc := 73) (tgt := 87) dX7_place_73 (by decide) ?_
                exact rr_reti (pc := 87) dX7_place_87 rfl rfl (by unfold vPlace; rw [if_pos h49, if_pos (by unfold zRa; rw [if_neg (by omega)]; omega)]) rfl (hq ⟨hpl, by omega⟩ W2 oA tA)
          · refine rr_iconst (n := (-1)) dX7_place_52 ?_
            exact rr_reti (pc := 53) dX7_place_53 rfl rfl (by unfold vPlace; rw [if_neg (by omega)]) rfl (hq ⟨hpl, by omega⟩ W2 oA tA)
      · omega
