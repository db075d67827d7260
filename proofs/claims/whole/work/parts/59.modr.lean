theorem dX7_count_0 : decode cX7_count 0 = .ok (.aload_n 0, 1) := by decide +kernel
theorem dX7_count_1 : decode cX7_count 1 = .ok (.iload_n 1, 1) := by decide +kernel
theorem dX7_count_2 : decode cX7_count 2 = .ok (.iconst 0, 1) := by decide +kernel
theorem dX7_count_3 : decode cX7_count 3 = .ok (.bipush 10, 2) := by decide +kernel
theorem dX7_count_5 : decode cX7_count 5 = .ok (.invokestatic 69, 3) := by decide +kernel
theorem dX7_count_8 : decode cX7_count 8 = .ok (.ifCond .eq 7, 3) := by decide +kernel
theorem dX7_count_11 : decode cX7_count 11 = .ok (.iconst 0, 1) := by decide +kernel
theorem dX7_count_12 : decode cX7_count 12 = .ok (.goto 4, 3) := by decide +kernel
theorem dX7_count_15 : decode cX7_count 15 = .ok (.iconst 1, 1) := by decide +kernel
theorem dX7_count_16 : decode cX7_count 16 = .ok (.putfield 59, 3) := by decide +kernel
theorem dX7_count_19 : decode cX7_count 19 = .ok (.aload_n 0, 1) := by decide +kernel
theorem dX7_count_20 : decode cX7_count 20 = .ok (.getfield 59, 3) := by decide +kernel
theorem dX7_count_23 : decode cX7_count 23 = .ok (.ifCond .le 5, 3) := by decide +kernel
theorem dX7_count_26 : decode cX7_count 26 = .ok (.iconst 0, 1) := by decide +kernel
theorem dX7_count_27 : decode cX7_count 27 = .ok (.ireturn, 1) := by decide +kernel
theorem dX7_count_28 : decode cX7_count 28 = .ok (.iload_n 1, 1) := by decide +kernel
theorem dX7_count_29 : decode cX7_count 29 = .ok (.tableswitch 66 6 10 #[35, 40, 45, 53, 61], 35) := by decide +kernel
theorem dX7_count_64 : decode cX7_count 64 = .ok (.aload_n 0, 1) := by decide +kernel
theorem dX7_count_65 : decode cX7_count 65 = .ok (.invokevirtual 276, 3) := by decide +kernel
theorem dX7_count_68 : decode cX7_count 68 = .ok (.ireturn, 1) := by decide +kernel
theorem dX7_count_69 : decode cX7_count 69 = .ok (.aload_n 0, 1) := by decide +kernel
theorem dX7_count_70 : decode cX7_count 70 = .ok (.invokevirtual 279, 3) := by decide +kernel
theorem dX7_count_73 : decode cX7_count 73 = .ok (.ireturn, 1) := by decide +kernel
theorem dX7_count_74 : decode cX7_count 74 = .ok (.aload_n 0, 1) := by decide +kernel
theorem dX7_count_75 : decode cX7_count 75 = .ok (.getfield 7, 3) := by decide +kernel
theorem dX7_count_78 : decode cX7_count 78 = .ok (.bipush 6, 2) := by decide +kernel
theorem dX7_count_80 : decode cX7_count 80 = .ok (.iaload, 1) := by decide +kernel
theorem dX7_count_81 : decode cX7_count 81 = .ok (.ireturn, 1) := by decide +kernel
theorem dX7_count_82 : decode cX7_count 82 = .ok (.aload_n 0, 1) := by decide +kernel
theorem dX7_count_83 : decode cX7_count 83 = .ok (.getfield 7, 3) := by decide +kernel
theorem dX7_count_86 : decode cX7_count 86 = .ok (.bipush 7, 2) := by decide +kernel
theorem dX7_count_88 : decode cX7_count 88 = .ok (.iaload, 1) := by decide +kernel
theorem dX7_count_89 : decode cX7_count 89 = .ok (.ireturn, 1) := by decide +kernel
theorem dX7_count_90 : decode cX7_count 90 = .ok (.aload_n 0, 1) := by decide +kernel
theorem dX7_count_91 : decode cX7_count 91 = .ok (.invokevirtual 282, 3) := by decide +kernel
theorem dX7_count_94 : decode cX7_count 94 = .ok (.ireturn, 1) := by decide +kernel
theorem dX7_count_95 : decode cX7_count 95 = .ok (.aload_n 0, 1) := by decide +kernel
theorem dX7_count_96 : decode cX7_count 96 = .ok (.getfield 7, 3) := by decide +kernel
theorem dX7_count_99 : decode cX7_count 99 = .ok (.iload_n 1, 1) := by decide +kernel
theorem dX7_count_100 : decode cX7_count 100 = .ok (.iaload, 1) := by decide +kernel
theorem dX7_count_101 : decode cX7_count 101 = .ok (.ireturn, 1) := by decide +kernel
theorem eX7_count {W : zWd} {a : Int → Int} {T : Int} {w : Int}  {Q : Option Value → zWd → Prop} {X : zX} (ha : W 117 = a) (hw : zWf T a) (hz : zR w) (hq : 0 ≤ w ∧ w ≤ 10 → ∀ W' : zWd, zOfQ W W' → W' 116 7 = 0 → Q (some (zI (vCount a w))) W') (hq1 : ¬ (0 ≤ w ∧ w ≤ 10) → ∀ W' : zWd, zOfQ W W' → W' 116 7 = 1 → Q (some (zI 0)) W')  : Ev MX7_count 3 0 W [.ref 116, zI w] Q X := by
  refine ev_of (ls := [.ref 116, zI w]) (by decide) rfl (fun _ => rfl) (fun _ => Nat.le_of_ble_eq_true rfl) (Or.inl rfl) ?_
  obtain ⟨w0, w0', wW, w1, w2, w2', w3, w3', w4, w4', w5, w5', w6, w6', w7, w7', wS, wP, wT⟩ := id hw
  have wq := zWf.sq hw
  have hn2 : a 2 ≤ 6 := w2'
  refine rr_aload_n (pc := 0) dX7_count_0 rfl ?_
  refine rr_iload_n (pc := 1) dX7_count_1 rfl ?_
  refine rr_iconst (n := 0) dX7_count_2 ?_
  refine rr_bipush (n := (10)) dX7_count_3 ?_
  refine rr_sta0 (M' := MX7_isIn) (As := [_, _, _]) (pc := 5) dX7_count_5 lX7_69 kX7_isIn sX7_isIn (by decide) (by decide) (Nat.le_of_ble_eq_true rfl) rfl (eX7_isIn hz (by unfold zR; omega) (by unfold zR; omega) ?_)
  refine rr_if_eq (pc := 8) (tgt := 15) dX7_count_8 (by decide) (by split <;> (unfold zR; omega)) (fun h8 => ?_) (fun h8 => ?_)
  · refine rr_iconst (n := 1) dX7_count_15 ?_
    have hnin := z_i10 h8
    refine rr_put (pc := 16) (ji := 7) dX7_count_16 fX7_59 fp_7_7 zk_116 zr_116_7 rfl ?_
    have o1 : zOfQ W (zup W 116 7 1) := zOfQ.t
    have t1 : zup W 116 7 1 116 7 = 1 := zup_s
    have a1 : zup W 116 7 1 117 = a := o1.a.trans ha
    generalize zup W 116 7 1 = W1 at o1 t1 a1 ⊢
    refine rr_aload_n (pc := 19) dX7_count_19 rfl ?_
    refine rr_getI (pc := 20) (ji := 7) dX7_count_20 fX7_59 zk_116 zr_116_7 rfl ?_
    rw [t1]
    refine rr_if_le (pc := 23) (tgt := 28) dX7_count_23 (by decide) (by unfold zR; omega) (fun h23 => ?_) (fun h23 => ?_)
    · omega
    · refine rr_iconst (n := 0) dX7_count_26 ?_
      exact rr_reti (pc := 27) dX7_count_27 rfl rfl rfl rfl (hq1 hnin W1 o1 t1)
  · refine rr_iconst (n := 0) dX7_count_11 ?_
    refine rr_goto (pc := 12) (tgt := 16) dX7_count_12 (by decide) ?_
    have hin := z_i10n h8
    refine rr_put (pc := 16) (ji := 7) dX7_count_16 fX7_59 fp_7_7 zk_116 zr_116_7 rfl ?_
    have o1 : zOfQ W (zup W 116 7 0) := zOfQ.t
    have t1 : zup W 116 7 0 116 7 = 0 := zup_s
    have a1 : zup W 116 7 0 117 = a := o1.a.trans ha
    generalize zup W 116 7 0 = W1 at o1 t1 a1 ⊢
    refine rr_aload_n (pc := 19) dX7_count_19 rfl ?_
    refine rr_getI (pc := 20) (ji := 7) dX7_count_20 fX7_59 zk_116 zr_116_7 rfl ?_
    rw [t1]
    refine rr_if_le (pc := 23) (tgt := 28) dX7_count_23 (by decide) (by unfold zR; omega) (fun h23 => ?_) (fun h23 => ?_)
    · refine rr_iload_n (pc := 28) dX7_count_28 rfl ?_
      by_cases hsw : 6 ≤ w ∧ w ≤ 10
      · have hsv : w = 6 ∨ w = 7 ∨ w = 8 ∨ w = 9 ∨ w = 10 := by omega
        rcases hsv with rfl | rfl | rfl | rfl | rfl
        · refine rr_tabI (pc := 29) (tgt := 64) dX7_count_29 (by unfold zR; omega) (by decide) (by decide) rfl (by decide) ?_
          refine rr_aload_n (pc := 64) dX7_count_64 rfl ?_
          refine rr_inv0 (M' := MX7_ownedAll) (k := 116) (As := []) (pc := 65) dX7_count_65 lX7_276 kX7_ownedAll vX7_ownedAll zk_116 (by decide) rfl (by decide) (by decide) (Nat.le_of_ble_eq_true rfl) rfl (eX7_ownedAll a1 hw ?_)
          exact rr_reti (pc := 68) dX7_count_68 rfl rfl rfl rfl (hq hin W1 o1 t1)
        · refine rr_tabI (pc := 29) (tgt := 69) dX7_count_29 (by unfold zR; omega) (by decide) (by decide) rfl (by decide) ?_
          refine rr_aload_n (pc := 69) dX7_count_69 rfl ?_
          refine rr_inv0 (M' := MX7_markers) (k := 116) (As := []) (pc := 70) dX7_count_70 lX7_279 kX7_markers vX7_markers zk_116 (by decide) rfl (by decide) (by decide) (Nat.le_of_ble_eq_true rfl) rfl (eX7_markers a1 hw ?_)
          exact rr_reti (pc := 73) dX7_count_73 rfl rfl rfl rfl (hq hin W1 o1 t1)
        · refine rr_tabI (pc := 29) (tgt := 74) dX7_count_29 (by unfold zR; omega) (by decide) (by decide) rfl (by decide) ?_
          refine rr_aload_n (pc := 74) dX7_count_74 rfl ?_
          refine rr_getR (pc := 75) dX7_count_75 fX7_7 zk_116 zr_116_0 ?_
          refine rr_bipush (n := (6)) dX7_count_78 ?_
          refine rr_iald (pc := 80) dX7_count_80 zk_117 (by omega) (by omega) ?_
          rw [a1]
          exact rr_reti (pc := 81) dX7_count_81 rfl rfl rfl rfl (hq hin W1 o1 t1)
        · refine rr_tabI (pc := 29) (tgt := 82) dX7_count_29 (by unfold zR; omega) (by decide) (by decide) rfl (by decide) ?_
          refine rr_aload_n (pc := 82) dX7_count_82 rfl ?_
          refine rr_getR (pc := 83) dX7_count_83 fX7_7 zk_116 zr_116_0 ?_
          refine rr_bipush (n := (7)) dX7_count_86 ?_
          refine rr_iald (pc := 88) dX7_count_88 zk_117 (by omega) (by omega) ?_
          rw [a1]
          exact rr_reti (pc := 89) dX7_count_89 rfl rfl rfl rfl (hq hin W1 o1 t1)
        · refine rr_tabI (pc := 29) (tgt := 90) dX7_count_29 (by unfold zR; omega) (by decide) (by decide) rfl (by decide) ?_
          refine rr_aload_n (pc := 90) dX7_count_90 rfl ?_
          refine rr_inv0 (M' := MX7_richest) (k := 116) (As := []) (pc := 91) dX7_count_91 lX7_282 kX7_richest vX7_richest zk_116 (by decide) rfl (by decide) (by decide) (Nat.le_of_ble_eq_true rfl) rfl (eX7_richest a1 hw ?_)
          exact rr_reti (pc := 94) dX7_count_94 rfl rfl rfl rfl (hq hin W1 o1 t1)
      · refine rr_tabO (pc := 29) (tgt := 95) dX7_count_29 (by unfold zR; omega) (by omega) (by decide) ?_
        refine rr_aload_n (pc := 95) dX7_count_95 rfl ?_
        refine rr_getR (pc := 96) dX7_count_96 fX7_7 zk_116 zr_116_0 ?_
        refine rr_iload_n (pc := 99) dX7_count_99 rfl ?_
        refine rr_iald (pc := 100) dX7_count_100 zk_117 (by omega) (by omega) ?_
        rw [a1]
        exact rr_reti (pc := 101) dX7_count_101 rfl rfl (by unfold vCount; rw [if_neg (by omega), if_neg (by omega), if_neg (by omega), if_neg (by omega), if_neg (by omega)]) rfl (hq hin W1 o1 t1)
    · omega
theorem dX7_player_0 : decode cX7_player 0 = .ok (.aload_n 0, 1) := by decide +kernel
theorem dX7_player_1 : decode cX7_player 1 = .ok (.aload_n 0, 1) := by decide +kernel
theorem dX7_player_2 : decode cX7_player 2 = .ok (.iload_n 1, 1) := by decide +kernel
theorem dX7_player_3 : decode cX7_player 3 = .ok (.invokevirtual 285, 3) := by decide +kernel
theorem dX7_player_6 : decode cX7_player 6 = .ok (.ifCond .ne 7, 3) := by decide +kernel
theorem dX7_player_9 : decode cX7_player 9 = .ok (.iconst 1, 1) := by decide +kernel
theorem dX7_player_10 : decode cX7_player 10 = .ok (.goto 18, 3) := by decide +kernel
theorem dX7_player_13 : decode cX7_player 13 = .ok (.iload_n 2, 1) := by decide +kernel
theorem dX7_player_14 : decode cX7_player 14 = .ok (.iconst 0, 1) := by decide +kernel
theorem dX7_player_15 : decode cX7_player 15 = .ok (.bipush 9, 2) := by decide +kernel
theorem dX7_player_17 : decode cX7_player 17 = .ok (.invokestatic 69, 3) := by decide +kernel
theorem dX7_player_20 : decode cX7_player 20 = .ok (.ifCond .eq 7, 3) := by decide +kernel
theorem dX7_player_23 : decode cX7_player 23 = .ok (.iconst 0, 1) := by decide +kernel
theorem dX7_player_24 : decode cX7_player 24 = .ok (.goto 4, 3) := by decide +kernel
theorem dX7_player_27 : decode cX7_player 27 = .ok (.iconst 2, 1) := by decide +kernel
theorem dX7_player_28 : decode cX7_player 28 = .ok (.putfield 59, 3) := by decide +kernel
theorem dX7_player_31 : decode cX7_player 31 = .ok (.aload_n 0, 1) := by decide +kernel
theorem dX7_player_32 : decode cX7_player 32 = .ok (.getfield 59, 3) := by decide +kernel
theorem dX7_player_35 : decode cX7_player 35 = .ok (.ifCond .le 5, 3) := by decide +kernel
theorem dX7_player_38 : decode cX7_player 38 = .ok (.iconst 0, 1) := by decide +kernel
theorem dX7_player_39 : decode cX7_player 39 = .ok (.ireturn, 1) := by decide +kernel
theorem dX7_player_40 : decode cX7_player 40 = .ok (.iload_n 2, 1) := by decide +kernel
theorem dX7_player_41 : decode cX7_player 41 = .ok (.iconst 5, 1) := by decide +kernel
theorem dX7_player_42 : decode cX7_player 42 = .ok (.if_icmp .ne 23, 3) := by decide +kernel
theorem dX7_player_45 : decode cX7_player 45 = .ok (.aload_n 0, 1) := by decide +kernel
theorem dX7_player_46 : decode cX7_player 46 = .ok (.iload_n 1, 1) := by decide +kernel
theorem dX7_player_47 : decode cX7_player 47 = .ok (.iconst 5, 1) := by decide +kernel
theorem dX7_player_48 : decode cX7_player 48 = .ok (.invokevirtual 154, 3) := by decide +kernel
theorem dX7_player_51 : decode cX7_player 51 = .ok (.ifCond .ne 7, 3) := by decide +kernel
theorem dX7_player_54 : decode cX7_player 54 = .ok (.iconst (-1), 1) := by decide +kernel
theorem dX7_player_55 : decode cX7_player 55 = .ok (.goto 9, 3) := by decide +kernel
theorem dX7_player_58 : decode cX7_player 58 = .ok (.aload_n 0, 1) := by decide +kernel
theorem dX7_player_59 : decode cX7_player 59 = .ok (.iload_n 1, 1) := by decide +kernel
theorem dX7_player_60 : decode cX7_player 60 = .ok (.iconst 5, 1) := by decide +kernel
theorem dX7_player_61 : decode cX7_player 61 = .ok (.invokevirtual 154, 3) := by decide +kernel
theorem dX7_player_64 : decode cX7_player 64 = .ok (.ireturn, 1) := by decide +kernel
theorem dX7_player_65 : decode cX7_player 65 = .ok (.iload_n 2, 1) := by decide +kernel
theorem dX7_player_66 : decode cX7_player 66 = .ok (.iconst 5, 1) := by decide +kernel
theorem dX7_player_67 : decode cX7_player 67 = .ok (.if_icmp .ge 12, 3) := by decide +kernel
theorem dX7_player_70 : decode cX7_player 70 = .ok (.aload_n 0, 1) := by decide +kernel
theorem dX7_player_71 : decode cX7_player 71 = .ok (.iload_n 1, 1) := by decide +kernel
theorem dX7_player_72 : decode cX7_player 72 = .ok (.iload_n 2, 1) := by decide +kernel
theorem dX7_player_73 : decode cX7_player 73 = .ok (.invokevirtual 154, 3) := by decide +kernel
theorem dX7_player_76 : decode cX7_player 76 = .ok (.goto 25, 3) := by decide +kernel
theorem dX7_player_79 : decode cX7_player 79 = .ok (.iload_n 2, 1) := by decide +kernel
theorem dX7_player_80 : decode cX7_player 80 = .ok (.bipush 6, 2) := by decide +kernel
theorem dX7_player_82 : decode cX7_player 82 = .ok (.if_icmp .ne 11, 3) := by decide +kernel
theorem dX7_player_85 : decode cX7_player 85 = .ok (.aload_n 0, 1) := by decide +kernel
theorem dX7_player_86 : decode cX7_player 86 = .ok (.iload_n 1, 1) := by decide +kernel
theorem dX7_player_87 : decode cX7_player 87 = .ok (.invokevirtual 270, 3) := by decide +kernel
theorem dX7_player_90 : decode cX7_player 90 = .ok (.goto 11, 3) := by decide +kernel
theorem dX7_player_93 : decode cX7_player 93 = .ok (.aload_n 0, 1) := by decide +kernel
theorem dX7_player_94 : decode cX7_player 94 = .ok (.iload_n 1, 1) := by decide +kernel
theorem dX7_player_95 : decode cX7_player 95 = .ok (.iload_n 2, 1) := by decide +kernel
theorem dX7_player_96 : decode cX7_player 96 = .ok (.iconst 1, 1) := by decide +kernel
theorem dX7_player_97 : decode cX7_player 97 = .ok (.isub, 1) := by decide +kernel
theorem dX7_player_98 : decode cX7_player 98 = .ok (.invokevirtual 154, 3) := by decide +kernel
theorem dX7_player_101 : decode cX7_player 101 = .ok (.ireturn, 1) := by decide +kernel
theorem eX7_player {W : zWd} {a : Int → Int} {T : Int} {p w : Int}  {Q : Option Value → zWd → Prop} {X : zX} (ha : W 117 = a) (hw : zWf T a) (hz : zR p) (hz2 : zR w) (hq : (0 ≤ p ∧ p < a 2) → (0 ≤ w ∧ w < 10) → ∀ W' : zWd, zOfQ W W' → W' 116 7 = 0 → Q (some (zI (vPl a p w))) W') (hq1 : ¬ (0 ≤ p ∧ p < a 2) → ∀ W' : zWd, zOfQ W W' → W' 116 7 = 1 → Q (some (zI 0)) W') (hq2 : (0 ≤ p ∧ p < a 2) → ¬ (0 ≤ w ∧ w < 10) → ∀ W' : zWd, zOfQ W W' → W' 116 7 = 2 → Q (some (zI 0)) W')  : Ev MX7_player 2 0 W [.ref 116, zI p, zI w] Q X := by
  refine ev_of (ls := [.ref 116, zI p, zI w]) (by decide) rfl (fun _ => rfl) (fun _ => Nat.le_of_ble_eq_true rfl) (Or.inl rfl) ?_
  obtain ⟨w0, w0', wW, w1, w2, w2', w3, w3', w4, w4', w5, w5', w6, w6', w7, w7', wS, wP, wT⟩ := id hw
  have wq := zWf.sq hw
  have hn2 : a 2 ≤ 6 := w2'
  refine rr_aload_n (pc := 0) dX7_player_0 rfl ?_
  refine rr_aload_n (pc := 1) dX7_player_1 rfl ?_
  refine rr_iload_n (pc := 2) dX7_player_2 rfl ?_
  refine rr_inv0 (M' := MX7_isPlayer) (k := 116) (As := [_]) (pc := 3) dX7_player_3 lX7_285 kX7_isPlayer vX7_isPlayer zk_116 (by decide) rfl (by decide) (by decide) (Nat.le_of_ble_eq_true rfl) rfl (eX7_isPlayer ha hw hz ?_)
  refine rr_if_ne (pc := 6) (tgt := 13) dX7_player_6 (by decide) (by split <;> (unfold zR; omega)) (fun h6 => ?_) (fun h6 => ?_)
  · refine rr_iload_n (pc := 13) dX7_player_13 rfl ?_
    refine rr_iconst (n := 0) dX7_player_14 ?_
    refine rr_bipush (n := (9)) dX7_player_15 ?_
    have hpl := z_i10n h6
    refine rr_sta0 (M' := MX7_isIn) (As := [_, _, _]) (pc := 17) dX7_player_17 lX7_69 kX7_isIn sX7_isIn (by decide) (by decide) (Nat.le_of_ble_eq_true rfl) rfl (eX7_isIn hz2 (by unfold zR; omega) (by unfold zR; omega) ?_)
    refine rr_if_eq (pc := 20) (tgt := 27) dX7_player_20 (by decide) (by split <;> (unfold zR; omega)) (fun h20 => ?_) (fun h20 => ?_)
    · refine rr_iconst (n := 2) dX7_player_27 ?_
      have hnw := z_i10 h20
      refine rr_put (pc := 28) (ji := 7) dX7_player_28 fX7_59 fp_7_7 zk_116 zr_116_7 rfl ?_
      have o1 : zOfQ W (zup W 116 7 2) := zOfQ.t
      have t1 : zup W 116 7 2 116 7 = 2 := zup_s
      have a1 : zup W 116 7 2 117 = a := o1.a.trans ha
      generalize zup W 116 7 2 = W1 at o1 t1 a1 ⊢
      refine rr_aload_n (pc := 31) dX7_player_31 rfl ?_
      refine rr_getI (pc := 32) (ji := 7) dX7_player_32 fX7_59 zk_116 zr_116_7 rfl ?_
      rw [t1]
      refine rr_if_le (pc := 35) (tgt := 40) dX7_player_35 (by decide) (by unfold zR; omega) (fun h35 => ?_) (fun h35 => ?_)
      · omega
      · refine rr_iconst (n := 0) dX7_player_38 ?_
        exact rr_reti (pc := 39) dX7_player_39 rfl rfl rfl rfl (hq2 hpl (by omega) W1 o1 t1)
    · refine rr_iconst (n := 0) dX7_player_23 ?_
      refine rr_goto (pc := 24) (tgt := 28) dX7_player_24 (by decide) ?_
      have hwi := z_i10n h20
      refine rr_put (pc := 28) (ji := 7) dX7_player_28 fX7_59 fp_7_7 zk_116 zr_116_7 rfl ?_
      have o1 : zOfQ W (zup W 116 7 0) := zOfQ.t
      have t1 : zup W 116 7 0 116 7 = 0 := zup_s
      have a1 : zup W 116 7 0 117 = a := o1.a.trans ha
      generalize zup W 116 7 0 = W1 at o1 t1 a1 ⊢
      refine rr_aload_n (pc := 31) dX7_player_31 rfl ?_
      refine rr_getI (pc := 32) (ji := 7) dX7_player_32 fX7_59 zk_116 zr_116_7 rfl ?_
      rw [t1]
      refine rr_if_le (pc := 35) (tgt := 40) dX7_player_35 (by decide) (by unfold zR; omega) (fun h35 => ?_) (fun h35 => ?_)
      · refine rr_iload_n (pc := 40) dX7_player_40 rfl ?_
        refine rr_iconst (n := 5) dX7_player_41 ?_
        have hp0 := hpl.1
        have hp1 := hpl.2
        have hm2 := wP p hp0 hp1
        unfold zWfP at hm2
        refine rr_icmp_ne (pc := 42) (tgt := 65) dX7_player_42 (by decide) (by unfold zR; omega) (by unfold zR; omega) (fun h42 => ?_) (fun h42 => ?_)
        · refine rr_iload_n (pc := 65) dX7_player_65 rfl ?_
          refine rr_iconst (n := 5) dX7_player_66 ?_
          refine rr_icmp_ge (pc := 67) (tgt := 79) dX7_player_67 (by decide) (by unfold zR; omega) (by unfold zR; omega) (fun h67 => ?_) (fun h67 => ?_)
          · refine rr_iload_n (pc := 79) dX7_player_79 rfl ?_
            refine rr_bipush (n := (6)) dX7_player_80 ?_
            refine rr_icmp_ne (pc := 82) (tgt := 93) dX7_player_82 (by decide) (by unfold zR; omega) (by unfold zR; omega) (fun h82 => ?_) (fun h82 => ?_)
            · refine rr_aload_n (pc := 93) dX7_player_93 rfl ?_
              refine rr_iload_n (pc := 94) dX7_player_94 rfl ?_
              refine rr_iload_n (pc := 95) dX7_player_95 rfl ?_
              refine rr_iconst (n := 1) dX7_player_96 ?_
              refine rr_isub (pc := 97) dX7_player_97 ?_
              refine rr_inv0 (M' := MX7_of) (k := 116) (As := [_, _]) (pc := 98) dX7_player_98 lX7_154 kX7_of vX7_of zk_116 (by decide) rfl (by decide) (by decide) (Nat.le_of_ble_eq_true rfl) rfl (eX7_of (by omega) (by omega) (by omega) (by omega) ?_)
              rw [a1]
              exact rr_reti (pc := 101) dX7_player_101 rfl rfl (by unfold vPl; rw [if_neg h82, if_neg h42, if_neg (by omega)]) rfl (hq hpl (by omega) W1 o1 t1)
            · refine rr_aload_n (pc := 85) dX7_player_85 rfl ?_
              refine rr_iload_n (pc := 86) dX7_player_86 rfl ?_
              refine rr_inv0 (M' := MX7_owned) (k := 116) (As := [_]) (pc := 87) dX7_player_87 lX7_270 kX7_owned vX7_owned zk_116 (by decide) rfl (by decide) (by decide) (Nat.le_of_ble_eq_true rfl) rfl (eX7_owned a1 hw hz ?_)
              refine rr_goto (pc := 90) (tgt := 101) dX7_player_90 (by decide) ?_
              exact rr_reti (pc := 101) dX7_player_101 rfl rfl (by unfold vPl; rw [if_pos h82]) rfl (hq hpl (by omega) W1 o1 t1)
          · refine rr_aload_n (pc := 70) dX7_player_70 rfl ?_
            refine rr_iload_n (pc := 71) dX7_player_71 rfl ?_
            refine rr_iload_n (pc := 72) dX7_player_72 rfl ?_
            refine rr_inv0 (M' := MX7_of) (k := 116) (As := [_, _]) (pc := 73) dX7_player_73 lX7_154 kX7_of vX7_of zk_116 (by decide) rfl (by decide) (by decide) (Nat.le_of_ble_eq_true rfl) rfl (eX7_of (by omega) (by omega) (by omega) (by omega) ?_)
            rw [a1]
            refine rr_goto (pc := 76) (tgt := 101) dX7_player_76 (by decide) ?_
            exact rr_reti (pc := 101) dX7_player_101 rfl rfl (by unfold vPl; rw [if_neg (by omega), if_neg h42, if_pos (by omega)]) rfl (hq hpl (by omega) W1 o1 t1)
        · refine rr_aload_n (pc := 45) dX7_player_45 rfl ?_
          refine rr_iload_n (pc := 46) dX7_player_46 rfl ?_
          refine rr_iconst (n := 5) dX7_player_47 ?_
          refine rr_inv0 (M' := MX7_of) (k := 116) (As := [_, _]) (pc := 48) dX7_player_48 lX7_154 kX7_of vX7_of zk_116 (by decide) rfl (by decide) (by decide) (Nat.le_of_ble_eq_true rfl) rfl (eX7_of (by omega) (by omega) (by omega) (by omega) ?_)
          rw [a1]
          refine rr_if_ne (pc := 51) (tgt := 58) dX7_player_51 (by decide) (by unfold zR; omega) (fun h51 => ?_) (fun h51 => ?_)
          · refine rr_aload_n (pc := 58) dX7_player_58 rfl ?_
            refine rr_iload_n (pc := 59) dX7_player_59 rfl ?_
            refine rr_iconst (n := 5) dX7_player_60 ?_
            refine rr_inv0 (M' := MX7_of) (k := 116) (As := [_, _]) (pc := 61) dX7_player_61 lX7_154 kX7_of vX7_of zk_116 (by decide) rfl (by decide) (by decide) (Nat.le_of_ble_eq_true rfl) rfl (eX7_of (by omega) (by omega) (by omega) (by omega) ?_)
            rw [a1]
            exact rr_reti (pc := 64) dX7_player_64 rfl rfl (by unfold vPl; rw [if_neg (by omega), if_pos h42, if_neg h51]) rfl (hq hpl (by omega) W1 o1 t1)
          · refine rr_iconst (n := (-1)) dX7_player_54 ?_
            refine rr_goto (pc := 55) (tgt := 64) dX7_player_55 (by decide) ?_
            exact rr_reti (pc := 64) dX7_player_64 rfl rfl (by unfold vPl; rw [if_neg (by omega), if_pos h42, if_pos (by omega)]) rfl (hq hpl (by omega) W1 o1 t1)
      · omega
  · refine rr_iconst (n := 1) dX7_player_9 ?_
    refine rr_goto (pc := 10) (tgt := 28) dX7_player_10 (by decide) ?_
    have hnp := z_i10 (show (if 0 ≤ p ∧ p < a 2 then (1 : Int) else 0) = 0 by omega)
    refine rr_put (pc := 28) (ji := 7) dX7_player_28 fX7_59 fp_7_7 zk_116 zr_116_7 rfl ?_
    have o1 : zOfQ W (zup W 116 7 1) := zOfQ.t
    have t1 : zup W 116 7 1 116 7 = 1 := zup_s
    have a1 : zup W 116 7 1 117 = a := o1.a.trans ha
    generalize zup W 116 7 1 = W1 at o1 t1 a1 ⊢
    refine rr_aload_n (pc := 31) dX7_player_31 rfl ?_
    refine rr_getI (pc := 32) (ji := 7) dX7_player_32 fX7_59 zk_116 zr_116_7 rfl ?_
    rw [t1]
    refine rr_if_le (pc := 35) (tgt := 40) dX7_player_35 (by decide) (by unfold zR; omega) (fun h35 => ?_) (fun h35 => ?_)
    · omega
    · refine rr_iconst (n := 0) dX7_player_38 ?_
      exact rr_reti (pc := 39) dX7_player_39 rfl rfl rfl rfl (hq1 hnp W1 o1 t1)
theorem dX7_square_0 : decode cX7_square 0 = .ok (.aload_n 0, 1) := by decide +kernel
theorem dX7_square_1 : decode cX7_square 1 = .ok (.aload_n 0, 1) := by decide +kernel
theorem dX7_square_2 : decode cX7_square 2 = .ok (.iload_n 1, 1) := by decide +kernel
theorem dX7_square_3 : decode cX7_square 3 = .ok (.invokevirtual 288, 3) := by decide +kernel
theorem dX7_square_6 : decode cX7_square 6 = .ok (.ifCond .ne 7, 3) := by decide +kernel
theorem dX7_square_9 : decode cX7_square 9 = .ok (.iconst 1, 1) := by decide +kernel
theorem dX7_square_10 : decode cX7_square 10 = .ok (.goto 17, 3) := by decide +kernel
theorem dX7_square_13 : decode cX7_square 13 = .ok (.iload_n 2, 1) := by decide +kernel
theorem dX7_square_14 : decode cX7_square 14 = .ok (.iconst 0, 1) := by decide +kernel
theorem dX7_square_15 : decode cX7_square 15 = .ok (.iconst 4, 1) := by decide +kernel
theorem dX7_square_16 : decode cX7_square 16 = .ok (.invokestatic 69, 3) := by decide +kernel
theorem dX7_square_19 : decode cX7_square 19 = .ok (.ifCond .eq 7, 3) := by decide +kernel
theorem dX7_square_22 : decode cX7_square 22 = .ok (.iconst 0, 1) := by decide +kernel
theorem dX7_square_23 : decode cX7_square 23 = .ok (.goto 4, 3) := by decide +kernel
theorem dX7_square_26 : decode cX7_square 26 = .ok (.iconst 2, 1) := by decide +kernel
theorem dX7_square_27 : decode cX7_square 27 = .ok (.putfield 59, 3) := by decide +kernel
theorem dX7_square_30 : decode cX7_square 30 = .ok (.aload_n 0, 1) := by decide +kernel
theorem dX7_square_31 : decode cX7_square 31 = .ok (.getfield 59, 3) := by decide +kernel
theorem dX7_square_34 : decode cX7_square 34 = .ok (.ifCond .le 5, 3) := by decide +kernel
theorem dX7_square_37 : decode cX7_square 37 = .ok (.iconst 0, 1) := by decide +kernel
theorem dX7_square_38 : decode cX7_square 38 = .ok (.ireturn, 1) := by decide +kernel
theorem dX7_square_39 : decode cX7_square 39 = .ok (.iload_n 2, 1) := by decide +kernel
theorem dX7_square_40 : decode cX7_square 40 = .ok (.tableswitch 62 0 3 #[32, 38, 50, 56], 32) := by decide +kernel
theorem dX7_square_72 : decode cX7_square 72 = .ok (.aload_n 0, 1) := by decide +kernel
theorem dX7_square_73 : decode cX7_square 73 = .ok (.iload_n 1, 1) := by decide +kernel
theorem dX7_square_74 : decode cX7_square 74 = .ok (.invokevirtual 245, 3) := by decide +kernel
theorem dX7_square_77 : decode cX7_square 77 = .ok (.ireturn, 1) := by decide +kernel
theorem dX7_square_78 : decode cX7_square 78 = .ok (.iload_n 1, 1) := by decide +kernel
theorem dX7_square_79 : decode cX7_square 79 = .ok (.aload_n 0, 1) := by decide +kernel
theorem dX7_square_80 : decode cX7_square 80 = .ok (.aload_n 0, 1) := by decide +kernel
theorem dX7_square_81 : decode cX7_square 81 = .ok (.iload_n 1, 1) := by decide +kernel
theorem dX7_square_82 : decode cX7_square 82 = .ok (.invokevirtual 245, 3) := by decide +kernel
theorem dX7_square_85 : decode cX7_square 85 = .ok (.invokevirtual 212, 3) := by decide +kernel
theorem dX7_square_88 : decode cX7_square 88 = .ok (.isub, 1) := by decide +kernel
theorem dX7_square_89 : decode cX7_square 89 = .ok (.ireturn, 1) := by decide +kernel
theorem dX7_square_90 : decode cX7_square 90 = .ok (.aload_n 0, 1) := by decide +kernel
theorem dX7_square_91 : decode cX7_square 91 = .ok (.iload_n 1, 1) := by decide +kernel
theorem dX7_square_92 : decode cX7_square 92 = .ok (.invokevirtual 187, 3) := by decide +kernel
theorem dX7_square_95 : decode cX7_square 95 = .ok (.ireturn, 1) := by decide +kernel
theorem dX7_square_96 : decode cX7_square 96 = .ok (.aload_n 0, 1) := by decide +kernel
theorem dX7_square_97 : decode cX7_square 97 = .ok (.iload_n 1, 1) := by decide +kernel
theorem dX7_square_98 : decode cX7_square 98 = .ok (.invokevirtual 291, 3) := by decide +kernel
theorem dX7_square_101 : decode cX7_square 101 = .ok (.ireturn, 1) := by decide +kernel
theorem dX7_square_102 : decode cX7_square 102 = .ok (.aload_n 0, 1) := by decide +kernel
theorem dX7_square_103 : decode cX7_square 103 = .ok (.getfield 7, 3) := by decide +kernel
theorem dX7_square_106 : decode cX7_square 106 = .ok (.bipush 18, 2) := by decide +kernel
theorem dX7_square_108 : decode cX7_square 108 = .ok (.iconst 2, 1) := by decide +kernel
theorem dX7_square_109 : decode cX7_square 109 = .ok (.iload_n 1, 1) := by decide +kernel
theorem dX7_square_110 : decode cX7_square 110 = .ok (.iconst 1, 1) := by decide +kernel
theorem dX7_square_111 : decode cX7_square 111 = .ok (.isub, 1) := by decide +kernel
theorem dX7_square_112 : decode cX7_square 112 = .ok (.imul, 1) := by decide +kernel
theorem dX7_square_113 : decode cX7_square 113 = .ok (.iadd, 1) := by decide +kernel
theorem dX7_square_114 : decode cX7_square 114 = .ok (.iconst 1, 1) := by decide +kernel
theorem dX7_square_115 : decode cX7_square 115 = .ok (.iadd, 1) := by decide +kernel
theorem dX7_square_116 : decode cX7_square 116 = .ok (.iaload, 1) := by decide +kernel
theorem dX7_square_117 : decode cX7_square 117 = .ok (.ireturn, 1) := by decide +kernel
theorem eX7_square {W : zWd} {a : Int → Int} {T : Int} {s w : Int}  {Q : Option Value → zWd → Prop} {X : zX} (ha : W 117 = a) (hw : zWf T a) (hz : zR s) (hz2 : zR w) (hq : (1 ≤ s ∧ s ≤ a 1) → (0 ≤ w ∧ w ≤ 4) → ∀ W' : zWd, zOfQ W W' → W' 116 7 = 0 → Q (some (zI (vSq a s w))) W') (hq1 : ¬ (1 ≤ s ∧ s ≤ a 1) → ∀ W' : zWd, zOfQ W W' → W' 116 7 = 1 → Q (some (zI 0)) W') (hq2 : (1 ≤ s ∧ s ≤ a 1) → ¬ (0 ≤ w ∧ w ≤ 4) → ∀ W' : zWd, zOfQ W W' → W' 116 7 = 2 → Q (some (zI 0)) W')  : Ev MX7_square 2 0 W [.ref 116, zI s, zI w] Q X := by
  refine ev_of (ls := [.ref 116, zI s, zI w]) (by decide) rfl (fun _ => rfl) (fun _ => Nat.le_of_ble_eq_true rfl) (Or.inl rfl) ?_
  obtain ⟨w0, w0', wW, w1, w2, w2', w3, w3', w4, w4', w5, w5', w6, w6', w7, w7', wS, wP, wT⟩ := id hw
  have wq := zWf.sq hw
  have hn2 : a 2 ≤ 6 := w2'
  refine rr_aload_n (pc := 0) dX7_square_0 rfl ?_
  refine rr_aload_n (pc := 1) dX7_square_1 rfl ?_
  refine rr_iload_n (pc := 2) dX7_square_2 rfl ?_
  refine rr_inv0 (M' := MX7_isSquare) (k := 116) (As := [_]) (pc := 3) dX7_square_3 lX7_288 kX7_isSquare vX7_isSquare zk_116 (by decide) rfl (by decide) (by decide) (Nat.le_of_ble_eq_true rfl) rfl (eX7_isSquare ha hw hz ?_)
  refine rr_if_ne (pc := 6) (tgt := 13) dX7_square_6 (by decide) (by split <;> (unfold zR; omega)) (fun h6 => ?_) (fun h6 => ?_)
  · refine rr_iload_n (pc := 13) dX7_square_13 rfl ?_
    refine rr_iconst (n := 0) dX7_square_14 ?_
    refine rr_iconst (n := 4) dX7_square_15 ?_
    have hpl := z_i10n h6
    refine rr_sta0 (M' := MX7_isIn) (As := [_, _, _]) (pc := 16) dX7_square_16 lX7_69 kX7_isIn sX7_isIn (by decide) (by decide) (Nat.le_of_ble_eq_true rfl) rfl (eX7_isIn hz2 (by unfold zR; omega) (by unfold zR; omega) ?_)
    refine rr_if_eq (pc := 19) (tgt := 26) dX7_square_19 (by decide) (by split <;> (unfold zR; omega)) (fun h19 => ?_) (fun h19 => ?_)
    · refine rr_iconst (n := 2) dX7_square_26 ?_
      have hnw := z_i10 h19
      refine rr_put (pc := 27) (ji := 7) dX7_square_27 fX7_59 fp_7_7 zk_116 zr_116_7 rfl ?_
      have o1 : zOfQ W (zup W 116 7 2) := zOfQ.t
      have t1 : zup W 116 7 2 116 7 = 2 := zup_s
      have a1 : zup W 116 7 2 117 = a := o1.a.trans ha
      generalize zup W 116 7 2 = W1 at o1 t1 a1 ⊢
      refine rr_aload_n (pc := 30) dX7_square_30 rfl ?_
      refine rr_getI (pc := 31) (ji := 7) dX7_square_31 fX7_59 zk_116 zr_116_7 rfl ?_
      rw [t1]
      refine rr_if_le (pc := 34) (tgt := 39) dX7_square_34 (by decide) (by unfold zR; omega) (fun h34 => ?_) (fun h34 => ?_)
      · omega
      · refine rr_iconst (n := 0) dX7_square_37 ?_
        exact rr_reti (pc := 38) dX7_square_38 rfl rfl rfl rfl (hq2 hpl hnw W1 o1 t1)
    · refine rr_iconst (n := 0) dX7_square_22 ?_
      refine rr_goto (pc := 23) (tgt := 27) dX7_square_23 (by decide) ?_
      have hwi := z_i10n h19
      refine rr_put (pc := 27) (ji := 7) dX7_square_27 fX7_59 fp_7_7 zk_116 zr_116_7 rfl ?_
      have o1 : zOfQ W (zup W 116 7 0) := zOfQ.t
      have t1 : zup W 116 7 0 116 7 = 0 := zup_s
      have a1 : zup W 116 7 0 117 = a := o1.a.trans ha
      generalize zup W 116 7 0 = W1 at o1 t1 a1 ⊢
      refine rr_aload_n (pc := 30) dX7_square_30 rfl ?_
      refine rr_getI (pc := 31) (ji := 7) dX7_square_31 fX7_59 zk_116 zr_116_7 rfl ?_
      rw [t1]
      refine rr_if_le (pc := 34) (tgt := 39) dX7_square_34 (by decide) (by unfold zR; omega) (fun h34 => ?_) (fun h34 => ?_)
      · refine rr_iload_n (pc := 39) dX7_square_39 rfl ?_
        have hs0 := hpl.1
        have hs1 := hpl.2
        have hsp := aR_spec hw hs0 hs1
        by_cases hsw : 0 ≤ w ∧ w ≤ 3
        · have hsv : w = 0 ∨ w = 1 ∨ w = 2 ∨ w = 3 := by omega
          rcases hsv with rfl | rfl | rfl | rfl
          · refine rr_tabI (pc := 40) (tgt := 72) dX7_square_40 (by unfold zR; omega) (by decide) (by decide) rfl (by decide) ?_
            refine rr_aload_n (pc := 72) dX7_square_72 rfl ?_
            refine rr_iload_n (pc := 73) dX7_square_73 rfl ?_
            refine rr_inv0 (M' := MX7_rowOf) (k := 116) (As := [_]) (pc := 74) dX7_square_74 lX7_245 kX7_rowOf vX7_rowOf zk_116 (by decide) rfl (by decide) (by decide) (Nat.le_of_ble_eq_true rfl) rfl (eX7_rowOf a1 hw hs0 hs1 ?_)
            exact rr_reti (pc := 77) dX7_square_77 rfl rfl rfl rfl (hq hpl hwi W1 o1 t1)
          · refine rr_tabI (pc := 40) (tgt := 78) dX7_square_40 (by unfold zR; omega) (by decide) (by decide) rfl (by decide) ?_
            refine rr_iload_n (pc := 78) dX7_square_78 rfl ?_
            refine rr_aload_n (pc := 79) dX7_square_79 rfl ?_
            refine rr_aload_n (pc := 80) dX7_square_80 rfl ?_
            refine rr_iload_n (pc := 81) dX7_square_81 rfl ?_
            refine rr_inv0 (M' := MX7_rowOf) (k := 116) (As := [_]) (pc := 82) dX7_square_82 lX7_245 kX7_rowOf vX7_rowOf zk_116 (by decide) rfl (by decide) (by decide) (Nat.le_of_ble_eq_true rfl) rfl (eX7_rowOf a1 hw hs0 hs1 ?_)
            refine rr_inv0 (M' := MX7_firstOf) (k := 116) (As := [_]) (pc := 85) dX7_square_85 lX7_212 kX7_firstOf vX7_firstOf zk_116 (by decide) rfl (by decide) (by decide) (Nat.le_of_ble_eq_true rfl) rfl (eX7_firstOf (by omega) (by omega) ?_)
            rw [Int.toNat_natCast, a1]
            refine rr_isub (pc := 88) dX7_square_88 ?_
            exact rr_reti (pc := 89) dX7_square_89 rfl rfl rfl rfl (hq hpl hwi W1 o1 t1)
          · refine rr_tabI (pc := 40) (tgt := 90) dX7_square_40 (by unfold zR; omega) (by decide) (by decide) rfl (by decide) ?_
            refine rr_aload_n (pc := 90) dX7_square_90 rfl ?_
            refine rr_iload_n (pc := 91) dX7_square_91 rfl ?_
            refine rr_inv0 (M' := MX7_ownerOf) (k := 116) (As := [_]) (pc := 92) dX7_square_92 lX7_187 kX7_ownerOf vX7_ownerOf zk_116 (by decide) rfl (by decide) (by decide) (Nat.le_of_ble_eq_true rfl) rfl (eX7_ownerOf hs0 (by omega) ?_)
            rw [a1]
            exact rr_reti (pc := 95) dX7_square_95 rfl rfl rfl rfl (hq hpl hwi W1 o1 t1)
          · refine rr_tabI (pc := 40) (tgt := 96) dX7_square_40 (by unfold zR; omega) (by decide) (by decide) rfl (by decide) ?_
            refine rr_aload_n (pc := 96) dX7_square_96 rfl ?_
            refine rr_iload_n (pc := 97) dX7_square_97 rfl ?_
            refine rr_inv0 (M' := MX7_markersOn) (k := 116) (As := [_]) (pc := 98) dX7_square_98 lX7_291 kX7_markersOn vX7_markersOn zk_116 (by decide) rfl (by decide) (by decide) (Nat.le_of_ble_eq_true rfl) rfl (eX7_markersOn a1 hw hz ?_)
            exact rr_reti (pc := 101) dX7_square_101 rfl rfl rfl rfl (hq hpl hwi W1 o1 t1)
        · refine rr_tabO (pc := 40) (tgt := 102) dX7_square_40 (by unfold zR; omega) (by omega) (by decide) ?_
          refine rr_aload_n (pc := 102) dX7_square_102 rfl ?_
          refine rr_getR (pc := 103) dX7_square_103 fX7_7 zk_116 zr_116_0 ?_
          refine rr_bipush (n := (18)) dX7_square_106 ?_
          refine rr_iconst (n := 2) dX7_square_108 ?_
          refine rr_iload_n (pc := 109) dX7_square_109 rfl ?_
          refine rr_iconst (n := 1) dX7_square_110 ?_
          refine rr_isub (pc := 111) dX7_square_111 ?_
          refine rr_imul (pc := 112) dX7_square_112 ?_
          refine rr_iadd (pc := 113) dX7_square_113 ?_
          refine rr_iconst (n := 1) dX7_square_114 ?_
          refine rr_iadd (pc := 115) dX7_square_115 ?_
          refine rr_iald (pc := 116) dX7_square_116 zk_117 (by omega) (by omega) ?_
          rw [a1]
          exact rr_reti (pc := 117) dX7_square_117 rfl rfl (by unfold vSq; rw [if_neg (by omega), if_neg (by omega), if_neg (by omega), if_neg (by omega)]; rfl) rfl (hq hpl hwi W1 o1 t1)
      · omega
  · refine rr_iconst (n := 1) dX7_square_9 ?_
    refine rr_goto (pc := 10) (tgt := 27) dX7_square_10 (by decide) ?_
    have hnp := z_i10 (show (if 1 ≤ s ∧ s ≤ a 1 then (1 : Int) else 0) = 0 by omega)
    refine rr_put (pc := 27) (ji := 7) dX7_square_27 fX7_59 fp_7_7 zk_116 zr_116_7 rfl ?_
    have o1 : zOfQ W (zup W 116 7 1) := zOfQ.t
    have t1 : zup W 116 7 1 116 7 = 1 := zup_s
    have a1 : zup W 116 7 1 117 = a := o1.a.trans ha
    generalize zup W 116 7 1 = W1 at o1 t1 a1 ⊢
    refine rr_aload_n (pc := 30) dX7_square_30 rfl ?_
    refine rr_getI (pc := 31) (ji := 7) dX7_square_31 fX7_59 zk_116 zr_116_7 rfl ?_
    rw [t1]
    refine rr_if_le (pc := 34) (tgt := 39) dX7_square_34 (by decide) (by unfold zR; omega) (fun h34 => ?_) (fun h34 => ?_)
    · omega
    · refine rr_iconst (n := 0) dX7_square_37 ?_
      exact rr_reti (pc := 38) dX7_square_38 rfl rfl rfl rfl (hq1 hnp W1 o1 t1)
theorem dX7_row_0 : decode cX7_row 0 = .ok (.aload_n 0, 1) := by decide +kernel
theorem dX7_row_1 : decode cX7_row 1 = .ok (.aload_n 0, 1) := by decide +kernel
theorem dX7_row_2 : decode cX7_row 2 = .ok (.iload_n 1, 1) := by decide +kernel
theorem dX7_row_3 : decode cX7_row 3 = .ok (.invokevirtual 294, 3) := by decide +kernel
theorem dX7_row_6 : decode cX7_row 6 = .ok (.ifCond .eq 7, 3) := by decide +kernel
theorem dX7_row_9 : decode cX7_row 9 = .ok (.iconst 0, 1) := by decide +kernel
theorem dX7_row_10 : decode cX7_row 10 = .ok (.goto 4, 3) := by decide +kernel
theorem dX7_row_13 : decode cX7_row 13 = .ok (.iconst 1, 1) := by decide +kernel
theorem dX7_row_14 : decode cX7_row 14 = .ok (.putfield 59, 3) := by decide +kernel
theorem dX7_row_17 : decode cX7_row 17 = .ok (.aload_n 0, 1) := by decide +kernel
theorem dX7_row_18 : decode cX7_row 18 = .ok (.getfield 59, 3) := by decide +kernel
theorem dX7_row_21 : decode cX7_row 21 = .ok (.ifCond .le 7, 3) := by decide +kernel
theorem dX7_row_24 : decode cX7_row 24 = .ok (.iconst 0, 1) := by decide +kernel
theorem dX7_row_25 : decode cX7_row 25 = .ok (.goto 28, 3) := by decide +kernel
theorem dX7_row_28 : decode cX7_row 28 = .ok (.aload_n 0, 1) := by decide +kernel
theorem dX7_row_29 : decode cX7_row 29 = .ok (.iload_n 1, 1) := by decide +kernel
theorem dX7_row_30 : decode cX7_row 30 = .ok (.invokevirtual 212, 3) := by decide +kernel
theorem dX7_row_33 : decode cX7_row 33 = .ok (.aload_n 0, 1) := by decide +kernel
theorem dX7_row_34 : decode cX7_row 34 = .ok (.getfield 7, 3) := by decide +kernel
theorem dX7_row_37 : decode cX7_row 37 = .ok (.bipush 8, 2) := by decide +kernel
theorem dX7_row_39 : decode cX7_row 39 = .ok (.iload_n 1, 1) := by decide +kernel
theorem dX7_row_40 : decode cX7_row 40 = .ok (.iadd, 1) := by decide +kernel
theorem dX7_row_41 : decode cX7_row 41 = .ok (.iaload, 1) := by decide +kernel
theorem dX7_row_42 : decode cX7_row 42 = .ok (.iconst 2, 1) := by decide +kernel
theorem dX7_row_43 : decode cX7_row 43 = .ok (.if_icmp .ne 8, 3) := by decide +kernel
theorem dX7_row_46 : decode cX7_row 46 = .ok (.bipush 100, 2) := by decide +kernel
theorem dX7_row_48 : decode cX7_row 48 = .ok (.goto 4, 3) := by decide +kernel
theorem dX7_row_51 : decode cX7_row 51 = .ok (.iconst 0, 1) := by decide +kernel
theorem dX7_row_52 : decode cX7_row 52 = .ok (.iadd, 1) := by decide +kernel
theorem dX7_row_53 : decode cX7_row 53 = .ok (.ireturn, 1) := by decide +kernel
theorem eX7_row {W : zWd} {a : Int → Int} {T : Int} {r : Int}  {Q : Option Value → zWd → Prop} {X : zX} (ha : W 117 = a) (hw : zWf T a) (hz : zR r) (hq : 0 ≤ r ∧ r < a 0 → ∀ W' : zWd, zOfQ W W' → W' 116 7 = 0 → Q (some (zI (vRow a r))) W') (hq1 : ¬ (0 ≤ r ∧ r < a 0) → ∀ W' : zWd, zOfQ W W' → W' 116 7 = 1 → Q (some (zI 0)) W')  : Ev MX7_row 2 0 W [.ref 116, zI r] Q X := by
  refine ev_of (ls := [.ref 116, zI r]) (by decide) rfl (fun _ => rfl) (fun _ => Nat.le_of_ble_eq_true rfl) (Or.inl rfl) ?_
  obtain ⟨w0, w0', wW, w1, w2, w2', w3, w3', w4, w4', w5, w5', w6, w6', w7, w7', wS, wP, wT⟩ := id hw
  have wq := zWf.sq hw
  have hn2 : a 2 ≤ 6 := w2'
  refine rr_aload_n (pc := 0) dX7_row_0 rfl ?_
  refine rr_aload_n (pc := 1) dX7_row_1 rfl ?_
  refine rr_iload_n (pc := 2) dX7_row_2 rfl ?_
  refine rr_inv0 (M' := MX7_isRowOf) (k := 116) (As := [_]) (pc := 3) dX7_row_3 lX7_294 kX7_isRowOf vX7_isRowOf zk_116 (by decide) rfl (by decide) (by decide) (Nat.le_of_ble_eq_true rfl) rfl (eX7_isRowOf ha hw hz ?_)
  refine rr_if_eq (pc := 6) (tgt := 13) dX7_row_6 (by decide) (by split <;> (unfold zR; omega)) (fun h6 => ?_) (fun h6 => ?_)
  · refine rr_iconst (n := 1) dX7_row_13 ?_
    have hnp := z_i10 h6
    refine rr_put (pc := 14) (ji := 7) dX7_row_14 fX7_59 fp_7_7 zk_116 zr_116_7 rfl ?_
    have o1 : zOfQ W (zup W 116 7 1) := zOfQ.t
    have t1 : zup W 116 7 1 116 7 = 1 := zup_s
    have a1 : zup W 116 7 1 117 = a := o1.a.trans ha
    generalize zup W 116 7 1 = W1 at o1 t1 a1 ⊢
    refine rr_aload_n (pc := 17) dX7_row_17 rfl ?_
    refine rr_getI (pc := 18) (ji := 7) dX7_row_18 fX7_59 zk_116 zr_116_7 rfl ?_
    rw [t1]
    refine rr_if_le (pc := 21) (tgt := 28) dX7_row_21 (by decide) (by unfold zR; omega) (fun h21 => ?_) (fun h21 => ?_)
    · omega
    · refine rr_iconst (n := 0) dX7_row_24 ?_
      refine rr_goto (pc := 25) (tgt := 53) dX7_row_25 (by decide) ?_
      exact rr_reti (pc := 53) dX7_row_53 rfl rfl rfl rfl (hq1 hnp W1 o1 t1)
  · refine rr_iconst (n := 0) dX7_row_9 ?_
    refine rr_goto (pc := 10) (tgt := 14) dX7_row_10 (by decide) ?_
    have hpl := z_i10n h6
    refine rr_put (pc := 14) (ji := 7) dX7_row_14 fX7_59 fp_7_7 zk_116 zr_116_7 rfl ?_
    have o1 : zOfQ W (zup W 116 7 0) := zOfQ.t
    have t1 : zup W 116 7 0 116 7 = 0 := zup_s
    have a1 : zup W 116 7 0 117 = a := o1.a.trans ha
    generalize zup W 116 7 0 = W1 at o1 t1 a1 ⊢
    refine rr_aload_n (pc := 17) dX7_row_17 rfl ?_
    refine rr_getI (pc := 18) (ji := 7) dX7_row_18 fX7_59 zk_116 zr_116_7 rfl ?_
    rw [t1]
    refine rr_if_le (pc := 21) (tgt := 28) dX7_row_21 (by decide) (by unfold zR; omega) (fun h21 => ?_) (fun h21 => ?_)
    · refine rr_aload_n (pc := 28) dX7_row_28 rfl ?_
      refine rr_iload_n (pc := 29) dX7_row_29 rfl ?_
      refine rr_inv0 (M' := MX7_firstOf) (k := 116) (As := [_]) (pc := 30) dX7_row_30 lX7_212 kX7_firstOf vX7_firstOf zk_116 (by decide) rfl (by decide) (by decide) (Nat.le_of_ble_eq_true rfl) rfl (eX7_firstOf hpl.1 (by omega) ?_)
      rw [a1]
      have hww := wW r hpl.1 hpl.2
      refine rr_aload_n (pc := 33) dX7_row_33 rfl ?_
      refine rr_getR (pc := 34) dX7_row_34 fX7_7 zk_116 zr_116_0 ?_
      refine rr_bipush (n := (8)) dX7_row_37 ?_
      refine rr_iload_n (pc := 39) dX7_row_39 rfl ?_
      refine rr_iadd (pc := 40) dX7_row_40 ?_
      refine rr_iald (pc := 41) dX7_row_41 zk_117 (by omega) (by omega) ?_
      rw [a1]
      refine rr_iconst (n := 2) dX7_row_42 ?_
      refine rr_icmp_ne (pc := 43) (tgt := 51) dX7_row_43 (by decide) (by unfold zR; omega) (by unfold zR; omega) (fun h43 => ?_) (fun h43 => ?_)
      · refine rr_iconst (n := 0) dX7_row_51 ?_
        refine rr_iadd (pc := 52) dX7_row_52 ?_
        exact rr_reti (pc := 53) dX7_row_53 rfl rfl (by unfold vRow; rw [if_neg h43]) rfl (hq hpl W1 o1 t1)
      · refine rr_bipush (n := (100)) dX7_row_46 ?_
        refine rr_goto (pc := 48) (tgt := 52) dX7_row_48 (by decide) ?_
        refine rr_iadd (pc := 52) dX7_row_52 ?_
        exact rr_reti (pc := 53) dX7_row_53 rfl rfl (by unfold vRow; rw [if_pos h43]) rfl (hq hpl W1 o1 t1)
    · omega
theorem dX7_throwFault_0 : decode cX7_throwFault 0 = .ok (.aload_n 0, 1) := by decide +kernel
theorem dX7_throwFault_1 : decode cX7_throwFault 1 = .ok (.aload_n 0, 1) := by decide +kernel
theorem dX7_throwFault_2 : decode cX7_throwFault 2 = .ok (.iload_n 1, 1) := by decide +kernel
theorem dX7_throwFault_3 : decode cX7_throwFault 3 = .ok (.invokevirtual 285, 3) := by decide +kernel
theorem dX7_throwFault_6 : decode cX7_throwFault 6 = .ok (.ifCond .ne 7, 3) := by decide +kernel
theorem dX7_throwFault_9 : decode cX7_throwFault 9 = .ok (.iconst 1, 1) := by decide +kernel
theorem dX7_throwFault_10 : decode cX7_throwFault 10 = .ok (.goto 16, 3) := by decide +kernel
theorem dX7_throwFault_13 : decode cX7_throwFault 13 = .ok (.iload_n 2, 1) := by decide +kernel
theorem dX7_throwFault_14 : decode cX7_throwFault 14 = .ok (.iload_n 3, 1) := by decide +kernel
theorem dX7_throwFault_15 : decode cX7_throwFault 15 = .ok (.invokestatic 297, 3) := by decide +kernel
theorem dX7_throwFault_18 : decode cX7_throwFault 18 = .ok (.ifCond .eq 7, 3) := by decide +kernel
theorem dX7_throwFault_21 : decode cX7_throwFault 21 = .ok (.iconst 0, 1) := by decide +kernel
theorem dX7_throwFault_22 : decode cX7_throwFault 22 = .ok (.goto 4, 3) := by decide +kernel
theorem dX7_throwFault_25 : decode cX7_throwFault 25 = .ok (.iconst 2, 1) := by decide +kernel
theorem dX7_throwFault_26 : decode cX7_throwFault 26 = .ok (.putfield 59, 3) := by decide +kernel
theorem dX7_throwFault_29 : decode cX7_throwFault 29 = .ok (.aload_n 0, 1) := by decide +kernel
theorem dX7_throwFault_30 : decode cX7_throwFault 30 = .ok (.getfield 59, 3) := by decide +kernel
theorem dX7_throwFault_33 : decode cX7_throwFault 33 = .ok (.ifCond .le 7, 3) := by decide +kernel
theorem dX7_throwFault_36 : decode cX7_throwFault 36 = .ok (.iconst 0, 1) := by decide +kernel
theorem dX7_throwFault_37 : decode cX7_throwFault 37 = .ok (.goto 10, 3) := by decide +kernel
theorem dX7_throwFault_40 : decode cX7_throwFault 40 = .ok (.aload_n 0, 1) := by decide +kernel
theorem dX7_throwFault_41 : decode cX7_throwFault 41 = .ok (.iload_n 1, 1) := by decide +kernel
theorem dX7_throwFault_42 : decode cX7_throwFault 42 = .ok (.iload_n 2, 1) := by decide +kernel
theorem dX7_throwFault_43 : decode cX7_throwFault 43 = .ok (.iload_n 3, 1) := by decide +kernel
theorem dX7_throwFault_44 : decode cX7_throwFault 44 = .ok (.invokevirtual 300, 3) := by decide +kernel
theorem dX7_throwFault_47 : decode cX7_throwFault 47 = .ok (.ireturn, 1) := by decide +kernel
theorem eX7_throwFault {W : zWd} {a : Int → Int} {T : Int} {p r s : Int}  {Q : Option Value → zWd → Prop} {X : zX} (ha : W 117 = a) (hw : zWf T a) (hz : zR p) (hz2 : zR r) (hz3 : zR s) (hq : (0 ≤ p ∧ p < a 2) → (0 ≤ r ∧ r ≤ 199 ∧ 0 ≤ s ∧ s ≤ 1) → ∀ W' : zWd, zOfQ W W' → W' 116 7 = 0 → Q (some (zI (aFault a p r s))) W') (hq1 : ¬ (0 ≤ p ∧ p < a 2) → ∀ W' : zWd, zOfQ W W' → W' 116 7 = 1 → Q (some (zI 0)) W') (hq2 : (0 ≤ p ∧ p < a 2) → ¬ (0 ≤ r ∧ r ≤ 199 ∧ 0 ≤ s ∧ s ≤ 1) → ∀ W' : zWd, zOfQ W W' → W' 116 7 = 2 → Q (some (zI 0)) W')  : Ev MX7_throwFault 2 0 W [.ref 116, zI p, zI r, zI s] Q X := by
  refine ev_of (ls := [.ref 116, zI p, zI r, zI s]) (by decide) rfl (fun _ => rfl) (fun _ => Nat.le_of_ble_eq_true rfl) (Or.inl rfl) ?_
  obtain ⟨w0, w0', wW, w1, w2, w2', w3, w3', w4, w4', w5, w5', w6, w6', w7, w7', wS, wP, wT⟩ := id hw
  have wq := zWf.sq hw
  have hn2 : a 2 ≤ 6 := w2'
  refine rr_aload_n (pc := 0) dX7_throwFault_0 rfl ?_
  refine rr_aload_n (pc := 1) dX7_throwFault_1 rfl ?_
  refine rr_iload_n (pc := 2) dX7_throwFault_2 rfl ?_
  refine rr_inv0 (M' := MX7_isPlayer) (k := 116) (As := [_]) (pc := 3) dX7_throwFault_3 lX7_285 kX7_isPlayer vX7_isPlayer zk_116 (by decide) rfl (by decide) (by decide) (Nat.le_of_ble_eq_true rfl) rfl (eX7_isPlayer ha hw hz ?_)
  refine rr_if_ne (pc := 6) (tgt := 13) dX7_throwFault_6 (by decide) (by split <;> (unfold zR; omega)) (fun h6 => ?_) (fun h6 => ?_)
  · refine rr_iload_n (pc := 13) dX7_throwFault_13 rfl ?_
    refine rr_iload_n (pc := 14) dX7_throwFault_14 rfl ?_
    have hpl := z_i10n h6
    refine rr_sta0 (M' := MX7_isThrow) (As := [_, _]) (pc := 15) dX7_throwFault_15 lX7_297 kX7_isThrow sX7_isThrow (by decide) (by decide) (Nat.le_of_ble_eq_true rfl) rfl (eX7_isThrow hz2 hz3 ?_)
    refine rr_if_eq (pc := 18) (tgt := 25) dX7_throwFault_18 (by decide) (by split <;> (unfold zR; omega)) (fun h18 => ?_) (fun h18 => ?_)
    · refine rr_iconst (n := 2) dX7_throwFault_25 ?_
      have hnw := z_i10 h18
      refine rr_put (pc := 26) (ji := 7) dX7_throwFault_26 fX7_59 fp_7_7 zk_116 zr_116_7 rfl ?_
      have o1 : zOfQ W (zup W 116 7 2) := zOfQ.t
      have t1 : zup W 116 7 2 116 7 = 2 := zup_s
      have a1 : zup W 116 7 2 117 = a := o1.a.trans ha
      generalize zup W 116 7 2 = W1 at o1 t1 a1 ⊢
      refine rr_aload_n (pc := 29) dX7_throwFault_29 rfl ?_
      refine rr_getI (pc := 30) (ji := 7) dX7_throwFault_30 fX7_59 zk_116 zr_116_7 rfl ?_
      rw [t1]
      refine rr_if_le (pc := 33) (tgt := 40) dX7_throwFault_33 (by decide) (by unfold zR; omega) (fun h33 => ?_) (fun h33 => ?_)
      · omega
      · refine rr_iconst (n := 0) dX7_throwFault_36 ?_
        refine rr_goto (pc := 37) (tgt := 47) dX7_throwFault_37 (by decide) ?_
        exact rr_reti (pc := 47) dX7_throwFault_47 rfl rfl rfl rfl (hq2 hpl hnw W1 o1 t1)
    · refine rr_iconst (n := 0) dX7_throwFault_21 ?_
      refine rr_goto (pc := 22) (tgt := 26) dX7_throwFault_22 (by decide) ?_
      have hwi := z_i10n h18
      refine rr_put (pc := 26) (ji := 7) dX7_throwFault_26 fX7_59 fp_7_7 zk_116 zr_116_7 rfl ?_
      have o1 : zOfQ W (zup W 116 7 0) := zOfQ.t
      have t1 : zup W 116 7 0 116 7 = 0 := zup_s
      have a1 : zup W 116 7 0 117 = a := o1.a.trans ha
      generalize zup W 116 7 0 = W1 at o1 t1 a1 ⊢
      refine rr_aload_n (pc := 29) dX7_throwFault_29 rfl ?_
      refine rr_getI (pc := 30) (ji := 7) dX7_throwFault_30 fX7_59 zk_116 zr_116_7 rfl ?_
      rw [t1]
      refine rr_if_le (pc := 33) (tgt := 40) dX7_throwFault_33 (by decide) (by unfold zR; omega) (fun h33 => ?_) (fun h33 => ?_)
      · refine rr_aload_n (pc := 40) dX7_throwFault_40 rfl ?_
        refine rr_iload_n (pc := 41) dX7_throwFault_41 rfl ?_
        refine rr_iload_n (pc := 42) dX7_throwFault_42 rfl ?_
        refine rr_iload_n (pc := 43) dX7_throwFault_43 rfl ?_
        refine rr_inv0 (M' := MX7_faultOf) (k := 116) (As := [_, _, _]) (pc := 44) dX7_throwFault_44 lX7_300 kX7_faultOf vX7_faultOf zk_116 (by decide) rfl (by decide) (by decide) (Nat.le_of_ble_eq_true rfl) rfl (eX7_faultOf a1 hw hpl.1 hpl.2 hwi.1 hwi.2.1 hwi.2.2.1 hwi.2.2.2 ?_)
        exact rr_reti (pc := 47) dX7_throwFault_47 rfl rfl rfl rfl (hq hpl hwi W1 o1 t1)
      · omega
  · refine rr_iconst (n := 1) dX7_throwFault_9 ?_
    refine rr_goto (pc := 10) (tgt := 26) dX7_throwFault_10 (by decide) ?_
    have hnp := z_i10 (show (if 0 ≤ p ∧ p < a 2 then (1 : Int) else 0) = 0 by omega)
    refine rr_put (pc := 26) (ji := 7) dX7_throwFault_26 fX7_59 fp_7_7 zk_116 zr_116_7 rfl ?_
    have o1 : zOfQ W (zup W 116 7 1) := zOfQ.t
    have t1 : zup W 116 7 1 116 7 = 1 := zup_s
    have a1 : zup W 116 7 1 117 = a := o1.a.trans ha
    generalize zup W 116 7 1 = W1 at o1 t1 a1 ⊢
    refine rr_aload_n (pc := 29) dX7_throwFault_29 rfl ?_
    refine rr_getI (pc := 30) (ji := 7) dX7_throwFault_30 fX7_59 zk_116 zr_116_7 rfl ?_
    rw [t1]
    refine rr_if_le (pc := 33) (tgt := 40) dX7_throwFault_33 (by decide) (by unfold zR; omega) (fun h33 => ?_) (fun h33 => ?_)
    · omega
    · refine rr_iconst (n := 0) dX7_throwFault_36 ?_
      refine rr_goto (pc := 37) (tgt := 47) dX7_throwFault_37 (by decide) ?_
      exact rr_reti (pc := 47) dX7_throwFault_47 rfl rfl rfl rfl (hq1 hnp W1 o1 t1)
