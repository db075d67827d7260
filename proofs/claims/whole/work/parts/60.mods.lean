theorem dX7_ends_0 : decode cX7_ends 0 = .ok (.aload_n 0, 1) := by decide +kernel
theorem dX7_ends_1 : decode cX7_ends 1 = .ok (.iload_n 1, 1) := by decide +kernel
theorem dX7_ends_2 : decode cX7_ends 2 = .ok (.bipush 6, 2) := by decide +kernel
theorem dX7_ends_4 : decode cX7_ends 4 = .ok (.aload_n 0, 1) := by decide +kernel
theorem dX7_ends_5 : decode cX7_ends 5 = .ok (.iload_n 1, 1) := by decide +kernel
theorem dX7_ends_6 : decode cX7_ends 6 = .ok (.bipush 6, 2) := by decide +kernel
theorem dX7_ends_8 : decode cX7_ends 8 = .ok (.invokevirtual 154, 3) := by decide +kernel
theorem dX7_ends_11 : decode cX7_ends 11 = .ok (.iconst 1, 1) := by decide +kernel
theorem dX7_ends_12 : decode cX7_ends 12 = .ok (.iadd, 1) := by decide +kernel
theorem dX7_ends_13 : decode cX7_ends 13 = .ok (.invokevirtual 55, 3) := by decide +kernel
theorem dX7_ends_16 : decode cX7_ends 16 = .ok (.aload_n 0, 1) := by decide +kernel
theorem dX7_ends_17 : decode cX7_ends 17 = .ok (.iload_n 1, 1) := by decide +kernel
theorem dX7_ends_18 : decode cX7_ends 18 = .ok (.bipush 8, 2) := by decide +kernel
theorem dX7_ends_20 : decode cX7_ends 20 = .ok (.iload_n 2, 1) := by decide +kernel
theorem dX7_ends_21 : decode cX7_ends 21 = .ok (.invokevirtual 55, 3) := by decide +kernel
theorem dX7_ends_24 : decode cX7_ends 24 = .ok (.aload_n 0, 1) := by decide +kernel
theorem dX7_ends_25 : decode cX7_ends 25 = .ok (.getfield 7, 3) := by decide +kernel
theorem dX7_ends_28 : decode cX7_ends 28 = .ok (.iconst 5, 1) := by decide +kernel
theorem dX7_ends_29 : decode cX7_ends 29 = .ok (.dup2, 1) := by decide +kernel
theorem dX7_ends_30 : decode cX7_ends 30 = .ok (.iaload, 1) := by decide +kernel
theorem dX7_ends_31 : decode cX7_ends 31 = .ok (.iconst 1, 1) := by decide +kernel
theorem dX7_ends_32 : decode cX7_ends 32 = .ok (.iadd, 1) := by decide +kernel
theorem dX7_ends_33 : decode cX7_ends 33 = .ok (.iastore, 1) := by decide +kernel
theorem dX7_ends_34 : decode cX7_ends 34 = .ok (.aload_n 0, 1) := by decide +kernel
theorem dX7_ends_35 : decode cX7_ends 35 = .ok (.getfield 7, 3) := by decide +kernel
theorem dX7_ends_38 : decode cX7_ends 38 = .ok (.iconst 4, 1) := by decide +kernel
theorem dX7_ends_39 : decode cX7_ends 39 = .ok (.iload_n 1, 1) := by decide +kernel
theorem dX7_ends_40 : decode cX7_ends 40 = .ok (.iconst 1, 1) := by decide +kernel
theorem dX7_ends_41 : decode cX7_ends 41 = .ok (.iadd, 1) := by decide +kernel
theorem dX7_ends_42 : decode cX7_ends 42 = .ok (.aload_n 0, 1) := by decide +kernel
theorem dX7_ends_43 : decode cX7_ends 43 = .ok (.invokevirtual 203, 3) := by decide +kernel
theorem dX7_ends_46 : decode cX7_ends 46 = .ok (.irem, 1) := by decide +kernel
theorem dX7_ends_47 : decode cX7_ends 47 = .ok (.iastore, 1) := by decide +kernel
theorem dX7_ends_48 : decode cX7_ends 48 = .ok (.return_, 1) := by decide +kernel
theorem eX7_ends {W : zWd} {a : Int → Int} {T : Int} {p : Int} {f : Int} {Q : Option Value → zWd → Prop} {X : zX} (ha : W 117 = a) (hw : zWf T a) (hp0 : 0 ≤ p) (hp1 : p < a 2) (hq : ∀ W' : zWd, zOfm W W' → W' 117 = aEnd a p f → Q none W') : Ev MX7_ends 1 0 W [.ref 116, zI p, zI f] Q X := by
  refine ev_of (ls := [.ref 116, zI p, zI f]) (by decide) rfl (fun _ => rfl) (fun _ => Nat.le_of_ble_eq_true rfl) (Or.inl rfl) ?_
  subst ha
  obtain ⟨w0, w0', wW, w1, w2, w2', w3, w3', w4, w4', w5, w5', w6, w6', w7, w7', wS, wP, wT⟩ := id hw
  have wq := zWf.sq hw
  refine rr_aload_n (pc := 0) dX7_ends_0 rfl ?_
  refine rr_iload_n (pc := 1) dX7_ends_1 rfl ?_
  refine rr_bipush (n := (6)) dX7_ends_2 ?_
  refine rr_aload_n (pc := 4) dX7_ends_4 rfl ?_
  refine rr_iload_n (pc := 5) dX7_ends_5 rfl ?_
  refine rr_bipush (n := (6)) dX7_ends_6 ?_
  refine rr_inv0 (M' := MX7_of) (k := 116) (As := [_, _]) (pc := 8) dX7_ends_8 lX7_154 kX7_of vX7_of zk_116 (by decide) rfl (by decide) (by decide) (Nat.le_of_ble_eq_true rfl) rfl (eX7_of (by omega) (by omega) (by omega) (by omega) ?_)
  refine rr_iconst (n := 1) dX7_ends_11 ?_
  refine rr_iadd (pc := 12) dX7_ends_12 ?_
  refine rr_inv0 (M' := MX7_sets) (k := 116) (As := [_, _, _]) (pc := 13) dX7_ends_13 lX7_55 kX7_sets vX7_sets zk_116 (by decide) rfl (by decide) (by decide) (Nat.le_of_ble_eq_true rfl) rfl (eX7_sets (by omega) (by omega) (by omega) (by omega) ?_)
  refine rr_aload_n (pc := 16) dX7_ends_16 rfl ?_
  refine rr_iload_n (pc := 17) dX7_ends_17 rfl ?_
  refine rr_bipush (n := (8)) dX7_ends_18 ?_
  refine rr_iload_n (pc := 20) dX7_ends_20 rfl ?_
  refine rr_inv0 (M' := MX7_sets) (k := 116) (As := [_, _, _]) (pc := 21) dX7_ends_21 lX7_55 kX7_sets vX7_sets zk_116 (by decide) rfl (by decide) (by decide) (Nat.le_of_ble_eq_true rfl) rfl (eX7_sets (by omega) (by omega) (by omega) (by omega) ?_)
  refine rr_aload_n (pc := 24) dX7_ends_24 rfl ?_
  refine rr_getR (pc := 25) dX7_ends_25 fX7_7 zk_116 zr_116_0 ?_
  refine rr_iconst (n := 5) dX7_ends_28 ?_
  refine rr_dup2 (pc := 29) dX7_ends_29 ?_
  refine rr_iald (pc := 30) dX7_ends_30 zk_117 (by omega) (by omega) ?_
  rw [zup_i (show (5 : Int) ≠ 58 + 17 * p + 8 by omega), zup_i (show (5 : Int) ≠ 58 + 17 * p + 6 by omega)]
  refine rr_iconst (n := 1) dX7_ends_31 ?_
  refine rr_iadd (pc := 32) dX7_ends_32 ?_
  refine rr_iast (pc := 33) dX7_ends_33 zk_117 (by omega) (by omega) ?_
  refine rr_aload_n (pc := 34) dX7_ends_34 rfl ?_
  refine rr_getR (pc := 35) dX7_ends_35 fX7_7 zk_116 zr_116_0 ?_
  refine rr_iconst (n := 4) dX7_ends_38 ?_
  refine rr_iload_n (pc := 39) dX7_ends_39 rfl ?_
  refine rr_iconst (n := 1) dX7_ends_40 ?_
  refine rr_iadd (pc := 41) dX7_ends_41 ?_
  refine rr_aload_n (pc := 42) dX7_ends_42 rfl ?_
  refine rr_inv0 (M' := MX7_players) (k := 116) (As := []) (pc := 43) dX7_ends_43 lX7_203 kX7_players vX7_players zk_116 (by decide) rfl (by decide) (by decide) (Nat.le_of_ble_eq_true rfl) rfl (eX7_players ?_)
  rw [zup_i (show (2 : Int) ≠ 5 by decide), zup_i (show (2 : Int) ≠ 58 + 17 * p + 8 by omega), zup_i (show (2 : Int) ≠ 58 + 17 * p + 6 by omega)]
  refine rr_irem (pc := 46) dX7_ends_46 (by omega) (by omega) (by omega) (by omega) ?_
  refine rr_iast (pc := 47) dX7_ends_47 zk_117 (by omega) (by omega) ?_
  exact rr_retv (pc := 48) dX7_ends_48 rfl rfl (hq _ (zOfm.rf.up.up.up.up) (by rw [zup_at, zup_at, zup_at, zup_at]; rfl))
def aThru (a : Int → Int) (p : Int) : Int → Int := aMove (iup (iup a (58 + 17 * p + 5) 0) 7 (a 7 + 1)) p
theorem dX7_goesThrough_0 : decode cX7_goesThrough 0 = .ok (.aload_n 0, 1) := by decide +kernel
theorem dX7_goesThrough_1 : decode cX7_goesThrough 1 = .ok (.iload_n 1, 1) := by decide +kernel
theorem dX7_goesThrough_2 : decode cX7_goesThrough 2 = .ok (.iconst 2, 1) := by decide +kernel
theorem dX7_goesThrough_3 : decode cX7_goesThrough 3 = .ok (.invokevirtual 154, 3) := by decide +kernel
theorem dX7_goesThrough_6 : decode cX7_goesThrough 6 = .ok (.istore_n 2, 1) := by decide +kernel
theorem dX7_goesThrough_7 : decode cX7_goesThrough 7 = .ok (.aload_n 0, 1) := by decide +kernel
theorem dX7_goesThrough_8 : decode cX7_goesThrough 8 = .ok (.iload_n 1, 1) := by decide +kernel
theorem dX7_goesThrough_9 : decode cX7_goesThrough 9 = .ok (.iconst 5, 1) := by decide +kernel
theorem dX7_goesThrough_10 : decode cX7_goesThrough 10 = .ok (.iconst 0, 1) := by decide +kernel
theorem dX7_goesThrough_11 : decode cX7_goesThrough 11 = .ok (.invokevirtual 55, 3) := by decide +kernel
theorem dX7_goesThrough_14 : decode cX7_goesThrough 14 = .ok (.aload_n 0, 1) := by decide +kernel
theorem dX7_goesThrough_15 : decode cX7_goesThrough 15 = .ok (.getfield 7, 3) := by decide +kernel
theorem dX7_goesThrough_18 : decode cX7_goesThrough 18 = .ok (.bipush 7, 2) := by decide +kernel
theorem dX7_goesThrough_20 : decode cX7_goesThrough 20 = .ok (.dup2, 1) := by decide +kernel
theorem dX7_goesThrough_21 : decode cX7_goesThrough 21 = .ok (.iaload, 1) := by decide +kernel
theorem dX7_goesThrough_22 : decode cX7_goesThrough 22 = .ok (.iconst 1, 1) := by decide +kernel
theorem dX7_goesThrough_23 : decode cX7_goesThrough 23 = .ok (.iadd, 1) := by decide +kernel
theorem dX7_goesThrough_24 : decode cX7_goesThrough 24 = .ok (.iastore, 1) := by decide +kernel
theorem dX7_goesThrough_25 : decode cX7_goesThrough 25 = .ok (.aload_n 0, 1) := by decide +kernel
theorem dX7_goesThrough_26 : decode cX7_goesThrough 26 = .ok (.iload_n 1, 1) := by decide +kernel
theorem dX7_goesThrough_27 : decode cX7_goesThrough 27 = .ok (.iload_n 2, 1) := by decide +kernel
theorem dX7_goesThrough_28 : decode cX7_goesThrough 28 = .ok (.iconst 1, 1) := by decide +kernel
theorem dX7_goesThrough_29 : decode cX7_goesThrough 29 = .ok (.iadd, 1) := by decide +kernel
theorem dX7_goesThrough_30 : decode cX7_goesThrough 30 = .ok (.invokevirtual 219, 3) := by decide +kernel
theorem dX7_goesThrough_33 : decode cX7_goesThrough 33 = .ok (.istore_n 3, 1) := by decide +kernel
theorem dX7_goesThrough_34 : decode cX7_goesThrough 34 = .ok (.iload_n 3, 1) := by decide +kernel
theorem dX7_goesThrough_35 : decode cX7_goesThrough 35 = .ok (.ifCond .le 11, 3) := by decide +kernel
theorem dX7_goesThrough_38 : decode cX7_goesThrough 38 = .ok (.aload_n 0, 1) := by decide +kernel
theorem dX7_goesThrough_39 : decode cX7_goesThrough 39 = .ok (.iload_n 1, 1) := by decide +kernel
theorem dX7_goesThrough_40 : decode cX7_goesThrough 40 = .ok (.iconst 2, 1) := by decide +kernel
theorem dX7_goesThrough_41 : decode cX7_goesThrough 41 = .ok (.iload_n 3, 1) := by decide +kernel
theorem dX7_goesThrough_42 : decode cX7_goesThrough 42 = .ok (.invokevirtual 55, 3) := by decide +kernel
theorem dX7_goesThrough_45 : decode cX7_goesThrough 45 = .ok (.return_, 1) := by decide +kernel
theorem dX7_goesThrough_46 : decode cX7_goesThrough 46 = .ok (.aload_n 0, 1) := by decide +kernel
theorem dX7_goesThrough_47 : decode cX7_goesThrough 47 = .ok (.iload_n 1, 1) := by decide +kernel
theorem dX7_goesThrough_48 : decode cX7_goesThrough 48 = .ok (.iconst 4, 1) := by decide +kernel
theorem dX7_goesThrough_49 : decode cX7_goesThrough 49 = .ok (.aload_n 0, 1) := by decide +kernel
theorem dX7_goesThrough_50 : decode cX7_goesThrough 50 = .ok (.iload_n 1, 1) := by decide +kernel
theorem dX7_goesThrough_51 : decode cX7_goesThrough 51 = .ok (.iconst 4, 1) := by decide +kernel
theorem dX7_goesThrough_52 : decode cX7_goesThrough 52 = .ok (.invokevirtual 154, 3) := by decide +kernel
theorem dX7_goesThrough_55 : decode cX7_goesThrough 55 = .ok (.iconst 1, 1) := by decide +kernel
theorem dX7_goesThrough_56 : decode cX7_goesThrough 56 = .ok (.iadd, 1) := by decide +kernel
theorem dX7_goesThrough_57 : decode cX7_goesThrough 57 = .ok (.invokevirtual 55, 3) := by decide +kernel
theorem dX7_goesThrough_60 : decode cX7_goesThrough 60 = .ok (.aload_n 0, 1) := by decide +kernel
theorem dX7_goesThrough_61 : decode cX7_goesThrough 61 = .ok (.iload_n 1, 1) := by decide +kernel
theorem dX7_goesThrough_62 : decode cX7_goesThrough 62 = .ok (.iconst 3, 1) := by decide +kernel
theorem dX7_goesThrough_63 : decode cX7_goesThrough 63 = .ok (.bipush 9, 2) := by decide +kernel
theorem dX7_goesThrough_65 : decode cX7_goesThrough 65 = .ok (.aload_n 0, 1) := by decide +kernel
theorem dX7_goesThrough_66 : decode cX7_goesThrough 66 = .ok (.iload_n 1, 1) := by decide +kernel
theorem dX7_goesThrough_67 : decode cX7_goesThrough 67 = .ok (.iconst 3, 1) := by decide +kernel
theorem dX7_goesThrough_68 : decode cX7_goesThrough 68 = .ok (.invokevirtual 154, 3) := by decide +kernel
theorem dX7_goesThrough_71 : decode cX7_goesThrough 71 = .ok (.iconst 1, 1) := by decide +kernel
theorem dX7_goesThrough_72 : decode cX7_goesThrough 72 = .ok (.iadd, 1) := by decide +kernel
theorem dX7_goesThrough_73 : decode cX7_goesThrough 73 = .ok (.invokestatic 107, 3) := by decide +kernel
theorem dX7_goesThrough_76 : decode cX7_goesThrough 76 = .ok (.invokevirtual 55, 3) := by decide +kernel
theorem dX7_goesThrough_79 : decode cX7_goesThrough 79 = .ok (.aload_n 0, 1) := by decide +kernel
theorem dX7_goesThrough_80 : decode cX7_goesThrough 80 = .ok (.iload_n 1, 1) := by decide +kernel
theorem dX7_goesThrough_81 : decode cX7_goesThrough 81 = .ok (.iconst 2, 1) := by decide +kernel
theorem dX7_goesThrough_82 : decode cX7_goesThrough 82 = .ok (.aload_n 0, 1) := by decide +kernel
theorem dX7_goesThrough_83 : decode cX7_goesThrough 83 = .ok (.iload_n 1, 1) := by decide +kernel
theorem dX7_goesThrough_84 : decode cX7_goesThrough 84 = .ok (.iconst 1, 1) := by decide +kernel
theorem dX7_goesThrough_85 : decode cX7_goesThrough 85 = .ok (.invokevirtual 219, 3) := by decide +kernel
theorem dX7_goesThrough_88 : decode cX7_goesThrough 88 = .ok (.invokevirtual 55, 3) := by decide +kernel
theorem dX7_goesThrough_91 : decode cX7_goesThrough 91 = .ok (.return_, 1) := by decide +kernel
theorem eX7_goesThrough {W : zWd} {a : Int → Int} {T : Int} {p : Int}  {Q : Option Value → zWd → Prop} {X : zX} (ha : W 117 = a) (hw : zWf T a) (hp0 : 0 ≤ p) (hp1 : p < a 2) (hT : T + 2 ≤ 100000000) (hq : ∀ W' : zWd, zOfm W W' → W' 117 = aThru a p → Q none W') : Ev MX7_goesThrough 3 0 W [.ref 116, zI p] Q X := by
  refine ev_of (ls := [.ref 116, zI p, .null, .null]) (by decide) rfl (fun _ => rfl) (fun _ => Nat.le_of_ble_eq_true rfl) (Or.inl rfl) ?_
  subst ha
  obtain ⟨w0, w0', wW, w1, w2, w2', w3, w3', w4, w4', w5, w5', w6, w6', w7, w7', wS, wP, wT⟩ := id hw
  have wq := zWf.sq hw
  have hm2 := wP p hp0 hp1
  unfold zWfP at hm2
  have hT2 : T + 2 ≤ 100000000 := hT
  refine rr_aload_n (pc := 0) dX7_goesThrough_0 rfl ?_
  refine rr_iload_n (pc := 1) dX7_goesThrough_1 rfl ?_
  refine rr_iconst (n := 2) dX7_goesThrough_2 ?_
  refine rr_inv0 (M' := MX7_of) (k := 116) (As := [_, _]) (pc := 3) dX7_goesThrough_3 lX7_154 kX7_of vX7_of zk_116 (by decide) rfl (by decide) (by decide) (Nat.le_of_ble_eq_true rfl) rfl (eX7_of (by omega) (by omega) (by omega) (by omega) ?_)
  refine rr_istore_n (pc := 6) dX7_goesThrough_6 (by decide) ?_
  refine rr_aload_n (pc := 7) dX7_goesThrough_7 rfl ?_
  refine rr_iload_n (pc := 8) dX7_goesThrough_8 rfl ?_
  refine rr_iconst (n := 5) dX7_goesThrough_9 ?_
  refine rr_iconst (n := 0) dX7_goesThrough_10 ?_
  refine rr_inv0 (M' := MX7_sets) (k := 116) (As := [_, _, _]) (pc := 11) dX7_goesThrough_11 lX7_55 kX7_sets vX7_sets zk_116 (by decide) rfl (by decide) (by decide) (Nat.le_of_ble_eq_true rfl) rfl (eX7_sets (by omega) (by omega) (by omega) (by omega) ?_)
  refine rr_aload_n (pc := 14) dX7_goesThrough_14 rfl ?_
  refine rr_getR (pc := 15) dX7_goesThrough_15 fX7_7 zk_116 zr_116_0 ?_
  refine rr_bipush (n := (7)) dX7_goesThrough_18 ?_
  refine rr_dup2 (pc := 20) dX7_goesThrough_20 ?_
  refine rr_iald (pc := 21) dX7_goesThrough_21 zk_117 (by omega) (by omega) ?_
  rw [zup_i (show (7 : Int) ≠ 58 + 17 * p + 5 by omega)]
  refine rr_iconst (n := 1) dX7_goesThrough_22 ?_
  refine rr_iadd (pc := 23) dX7_goesThrough_23 ?_
  refine rr_iast (pc := 24) dX7_goesThrough_24 zk_117 (by omega) (by omega) ?_
  have e1 : zup (zup W 117 (58 + 17 * p + 5) 0) 117 7 (W 117 7 + 1) 117 = iup (iup (W 117) (58 + 17 * p + 5) 0) 7 (W 117 7 + 1) := by rw [zup_at, zup_at]
  have o1 : zOfm W (zup (zup W 117 (58 + 17 * p + 5) 0) 117 7 (W 117 7 + 1)) := zOfm.rf.up.up
  have f1 : zWf (T + 1) (iup (iup (W 117) (58 + 17 * p + 5) 0) 7 (W 117 7 + 1)) := WF_0 (WF_P (w := 5) (v := 0) (hw.mono (by omega) (by omega)) hp0 (by unfold zWr; omega)) (Or.inr (Or.inr ⟨Or.inr (Or.inr rfl), by omega, by omega⟩))
  have t1 : aP (W 117) p 2 = aP (iup (iup (W 117) (58 + 17 * p + 5) 0) 7 (W 117 7 + 1)) p 2 := by unfold aP; rw [iup_n (by omega), iup_n (by omega)]
  have t2 : iup (iup (W 117) (58 + 17 * p + 5) 0) 7 (W 117 7 + 1) 2 = W 117 2 := by rw [iup_n (by omega), iup_n (by omega)]
  rw [t1]
  unfold aThru at hq
  generalize zup (zup W 117 (58 + 17 * p + 5) 0) 117 7 (W 117 7 + 1) = W1 at e1 o1 ⊢
  generalize iup (iup (W 117) (58 + 17 * p + 5) 0) 7 (W 117 7 + 1) = b at e1 f1 t1 t2 hq ⊢
  have hb2 := f1.2.2.2.2.2.2.2.2.2.2.2.2.2.2.2.2.2.1 p hp0 (by omega)
  unfold zWfP at hb2
  have hbq := zWf.sq f1
  have hbo := aOpen_rng (a := b) (p := p) (s := aP b p 2 + 1) (by omega) (by omega)
  subst e1
  refine rr_aload_n (pc := 25) dX7_goesThrough_25 rfl ?_
  refine rr_iload_n (pc := 26) dX7_goesThrough_26 rfl ?_
  refine rr_iload_n (pc := 27) dX7_goesThrough_27 rfl ?_
  refine rr_iconst (n := 1) dX7_goesThrough_28 ?_
  refine rr_iadd (pc := 29) dX7_goesThrough_29 ?_
  refine rr_inv0 (M' := MX7_openFrom) (k := 116) (As := [_, _]) (pc := 30) dX7_goesThrough_30 lX7_219 kX7_openFrom vX7_openFrom zk_116 (by decide) rfl (by decide) (by decide) (Nat.le_of_ble_eq_true rfl) rfl (eX7_openFrom rfl f1 (by omega) (by omega) (by unfold zR; omega) ?_)
  refine rr_istore_n (pc := 33) dX7_goesThrough_33 (by decide) ?_
  refine rr_iload_n (pc := 34) dX7_goesThrough_34 rfl ?_
  refine rr_if_le (pc := 35) (tgt := 46) dX7_goesThrough_35 (by decide) (by unfold zR; omega) (fun h35 => ?_) (fun h35 => ?_)
  · refine rr_aload_n (pc := 46) dX7_goesThrough_46 rfl ?_
    refine rr_iload_n (pc := 47) dX7_goesThrough_47 rfl ?_
    refine rr_iconst (n := 4) dX7_goesThrough_48 ?_
    refine rr_aload_n (pc := 49) dX7_goesThrough_49 rfl ?_
    refine rr_iload_n (pc := 50) dX7_goesThrough_50 rfl ?_
    refine rr_iconst (n := 4) dX7_goesThrough_51 ?_
    refine rr_inv0 (M' := MX7_of) (k := 116) (As := [_, _]) (pc := 52) dX7_goesThrough_52 lX7_154 kX7_of vX7_of zk_116 (by decide) rfl (by decide) (by decide) (Nat.le_of_ble_eq_true rfl) rfl (eX7_of (by omega) (by omega) (by omega) (by omega) ?_)
    refine rr_iconst (n := 1) dX7_goesThrough_55 ?_
    refine rr_iadd (pc := 56) dX7_goesThrough_56 ?_
    refine rr_inv0 (M' := MX7_sets) (k := 116) (As := [_, _, _]) (pc := 57) dX7_goesThrough_57 lX7_55 kX7_sets vX7_sets zk_116 (by decide) rfl (by decide) (by decide) (Nat.le_of_ble_eq_true rfl) rfl (eX7_sets (by omega) (by omega) (by omega) (by omega) ?_)
    refine rr_aload_n (pc := 60) dX7_goesThrough_60 rfl ?_
    refine rr_iload_n (pc := 61) dX7_goesThrough_61 rfl ?_
    refine rr_iconst (n := 3) dX7_goesThrough_62 ?_
    refine rr_bipush (n := (9)) dX7_goesThrough_63 ?_
    refine rr_aload_n (pc := 65) dX7_goesThrough_65 rfl ?_
    refine rr_iload_n (pc := 66) dX7_goesThrough_66 rfl ?_
    refine rr_iconst (n := 3) dX7_goesThrough_67 ?_
    refine rr_inv0 (M' := MX7_of) (k := 116) (As := [_, _]) (pc := 68) dX7_goesThrough_68 lX7_154 kX7_of vX7_of zk_116 (by decide) rfl (by decide) (by decide) (Nat.le_of_ble_eq_true rfl) rfl (eX7_of (by omega) (by omega) (by omega) (by omega) ?_)
    rw [zup_at, aP_up (by omega)]
    refine rr_iconst (n := 1) dX7_goesThrough_71 ?_
    refine rr_iadd (pc := 72) dX7_goesThrough_72 ?_
    refine rr_min (pc := 73) dX7_goesThrough_73 lX7_107 z_mmin (by unfold zR; omega) (by unfold zR; omega) (by decide) (Nat.le_of_ble_eq_true rfl) ?_
    refine rr_inv0 (M' := MX7_sets) (k := 116) (As := [_, _, _]) (pc := 76) dX7_goesThrough_76 lX7_55 kX7_sets vX7_sets zk_116 (by decide) rfl (by decide) (by decide) (Nat.le_of_ble_eq_true rfl) rfl (eX7_sets (by omega) (by omega) (by omega) (by omega) ?_)
    refine rr_aload_n (pc := 79) dX7_goesThrough_79 rfl ?_
    refine rr_iload_n (pc := 80) dX7_goesThrough_80 rfl ?_
    refine rr_iconst (n := 2) dX7_goesThrough_81 ?_
    refine rr_aload_n (pc := 82) dX7_goesThrough_82 rfl ?_
    refine rr_iload_n (pc := 83) dX7_goesThrough_83 rfl ?_
    refine rr_iconst (n := 1) dX7_goesThrough_84 ?_
    have e2 : zup (zup W1 117 (58 + 17 * p + 4) (aP (W1 117) p 4 + 1)) 117 (58 + 17 * p + 3) (if aP (W1 117) p 3 + 1 < 9 then aP (W1 117) p 3 + 1 else 9) 117 = iup (iup (W1 117) (58 + 17 * p + 4) (aP (W1 117) p 4 + 1)) (58 + 17 * p + 3) (if aP (W1 117) p 3 + 1 < 9 then aP (W1 117) p 3 + 1 else 9) := by rw [zup_at, zup_at]
    have f2 : zWf (T + 2) (iup (iup (W1 117) (58 + 17 * p + 4) (aP (W1 117) p 4 + 1)) (58 + 17 * p + 3) (if aP (W1 117) p 3 + 1 < 9 then aP (W1 117) p 3 + 1 else 9)) := WF_P (w := 3) (WF_P (w := 4) (v := aP (W1 117) p 4 + 1) (f1.mono (by omega) hT2) hp0 (by unfold zWr; omega)) hp0 (by unfold zWr; split <;> omega)
    refine rr_inv0 (M' := MX7_openFrom) (k := 116) (As := [_, _]) (pc := 85) dX7_goesThrough_85 lX7_219 kX7_openFrom vX7_openFrom zk_116 (by decide) rfl (by decide) (by decide) (Nat.le_of_ble_eq_true rfl) rfl (eX7_openFrom e2 f2 (by omega) (by rw [iup_n (by omega), iup_n (by omega)]; omega) (by unfold zR; omega) ?_)
    rw [aOpen_upP hp0 (by omega) (by rw [iup_n (by omega)]; omega), aOpen_upP hp0 (by omega) (by omega)]
    refine rr_inv0 (M' := MX7_sets) (k := 116) (As := [_, _, _]) (pc := 88) dX7_goesThrough_88 lX7_55 kX7_sets vX7_sets zk_116 (by decide) rfl (by decide) (by decide) (Nat.le_of_ble_eq_true rfl) rfl (eX7_sets (by omega) (by omega) (by omega) (by omega) ?_)
    exact rr_retv (pc := 91) dX7_goesThrough_91 rfl rfl (hq _ (o1.tr zOfm.rf.up.up.up) (by rw [zup_at, zup_at, zup_at]; exact (show aMove (W1 117) p = _ from if_pos (by omega)).symm))
  · refine rr_aload_n (pc := 38) dX7_goesThrough_38 rfl ?_
    refine rr_iload_n (pc := 39) dX7_goesThrough_39 rfl ?_
    refine rr_iconst (n := 2) dX7_goesThrough_40 ?_
    refine rr_iload_n (pc := 41) dX7_goesThrough_41 rfl ?_
    refine rr_inv0 (M' := MX7_sets) (k := 116) (As := [_, _, _]) (pc := 42) dX7_goesThrough_42 lX7_55 kX7_sets vX7_sets zk_116 (by decide) rfl (by decide) (by decide) (Nat.le_of_ble_eq_true rfl) rfl (eX7_sets (by omega) (by omega) (by omega) (by omega) ?_)
    exact rr_retv (pc := 45) dX7_goesThrough_45 rfl rfl (hq _ (o1.tr zOfm.rf.up) (by rw [zup_at]; exact (show aMove (W1 117) p = _ from if_neg (by omega)).symm))
