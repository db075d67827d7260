theorem vCr_rng {T w : Int} {a : Int → Int} (hw : zWf T a) (hT : T + 8000 ≤ 100000000) : -1 ≤ vCr w a ∧ vCr w a < 6 := by
  have h1 := aUnt_wf (w := w) 300 1 T a hw (by omega)
  have h2 := aUnt_2 (w := w) 300 1 T a hw (by omega)
  have h3 := h1.2.2.2.2.2.2.2.2.1
  have h4 := h1.2.2.2.2.2.2.2.2.2.1
  have h5 := hw.2.2.2.2.1
  have h6 := hw.2.2.2.2.2.1
  unfold vCr
  split
  · omega
  · split <;> omega
theorem dX7_turnsToCrown_0 : decode cX7_turnsToCrown 0 = .ok (.aload_n 0, 1) := by decide +kernel
theorem dX7_turnsToCrown_1 : decode cX7_turnsToCrown 1 = .ok (.aload_n 0, 1) := by decide +kernel
theorem dX7_turnsToCrown_2 : decode cX7_turnsToCrown 2 = .ok (.iload_n 1, 1) := by decide +kernel
theorem dX7_turnsToCrown_3 : decode cX7_turnsToCrown 3 = .ok (.invokevirtual 285, 3) := by decide +kernel
theorem dX7_turnsToCrown_6 : decode cX7_turnsToCrown 6 = .ok (.ifCond .eq 7, 3) := by decide +kernel
theorem dX7_turnsToCrown_9 : decode cX7_turnsToCrown 9 = .ok (.iconst 0, 1) := by decide +kernel
theorem dX7_turnsToCrown_10 : decode cX7_turnsToCrown 10 = .ok (.goto 4, 3) := by decide +kernel
theorem dX7_turnsToCrown_13 : decode cX7_turnsToCrown 13 = .ok (.iconst 1, 1) := by decide +kernel
theorem dX7_turnsToCrown_14 : decode cX7_turnsToCrown 14 = .ok (.putfield 59, 3) := by decide +kernel
theorem dX7_turnsToCrown_17 : decode cX7_turnsToCrown 17 = .ok (.aload_n 0, 1) := by decide +kernel
theorem dX7_turnsToCrown_18 : decode cX7_turnsToCrown 18 = .ok (.getfield 59, 3) := by decide +kernel
theorem dX7_turnsToCrown_21 : decode cX7_turnsToCrown 21 = .ok (.ifCond .le 5, 3) := by decide +kernel
theorem dX7_turnsToCrown_24 : decode cX7_turnsToCrown 24 = .ok (.iconst 0, 1) := by decide +kernel
theorem dX7_turnsToCrown_25 : decode cX7_turnsToCrown 25 = .ok (.ireturn, 1) := by decide +kernel
theorem dX7_turnsToCrown_26 : decode cX7_turnsToCrown 26 = .ok (.aload_n 0, 1) := by decide +kernel
theorem dX7_turnsToCrown_27 : decode cX7_turnsToCrown 27 = .ok (.iload_n 1, 1) := by decide +kernel
theorem dX7_turnsToCrown_28 : decode cX7_turnsToCrown 28 = .ok (.invokevirtual 327, 3) := by decide +kernel
theorem dX7_turnsToCrown_31 : decode cX7_turnsToCrown 31 = .ok (.iconst (-1), 1) := by decide +kernel
theorem dX7_turnsToCrown_32 : decode cX7_turnsToCrown 32 = .ok (.if_icmp .ne 7, 3) := by decide +kernel
theorem dX7_turnsToCrown_35 : decode cX7_turnsToCrown 35 = .ok (.iconst (-1), 1) := by decide +kernel
theorem dX7_turnsToCrown_36 : decode cX7_turnsToCrown 36 = .ok (.goto 7, 3) := by decide +kernel
theorem dX7_turnsToCrown_39 : decode cX7_turnsToCrown 39 = .ok (.aload_n 0, 1) := by decide +kernel
theorem dX7_turnsToCrown_40 : decode cX7_turnsToCrown 40 = .ok (.getfield 315, 3) := by decide +kernel
theorem dX7_turnsToCrown_43 : decode cX7_turnsToCrown 43 = .ok (.ireturn, 1) := by decide +kernel
theorem eX7_turnsToCrown {W : zWd} {a : Int → Int} {T n : Int} {K : Nat → (Int → Int)} {p : Int}  {Q : Option Value → zWd → Prop} {X : zX} (ha : W 117 = a) (hw : zWf T a) (hH : zKp W n K) (hT : T + 8000 ≤ 100000000) (hz : zR p) (hq : (0 ≤ p ∧ p < a 2) → ∀ W' : zWd, zOfM W W' → W' 116 7 = 0 → zKp W' n K → (∀ i : Int, 0 ≤ i → i < 160 → W' 117 i = a i) → Q (some (zI ((aUnt p 300 1 a).1))) W') (hq1 : ¬ (0 ≤ p ∧ p < a 2) → ∀ W' : zWd, zOfM W W' → W' 116 7 = 1 → zKp W' n K → W' 117 = a → Q (some (zI 0)) W')  : Ev MX7_turnsToCrown 9 0 W [.ref 116, zI p] Q X := by
  refine ev_of (ls := [.ref 116, zI p]) (by decide) rfl (fun _ => rfl) (fun _ => Nat.le_of_ble_eq_true rfl) (Or.inl rfl) ?_
  obtain ⟨w0, w0', wW, w1, w2, w2', w3, w3', w4, w4', w5, w5', w6, w6', w7, w7', wS, wP, wT⟩ := id hw
  have wq := zWf.sq hw
  refine rr_aload_n (pc := 0) dX7_turnsToCrown_0 rfl ?_
  refine rr_aload_n (pc := 1) dX7_turnsToCrown_1 rfl ?_
  refine rr_iload_n (pc := 2) dX7_turnsToCrown_2 rfl ?_
  refine rr_inv0 (M' := MX7_isPlayer) (k := 116) (As := [_]) (pc := 3) dX7_turnsToCrown_3 lX7_285 kX7_isPlayer vX7_isPlayer zk_116 (by decide) rfl (by decide) (by decide) (Nat.le_of_ble_eq_true rfl) rfl (eX7_isPlayer ha hw hz ?_)
  refine rr_if_eq (pc := 6) (tgt := 13) dX7_turnsToCrown_6 (by decide) (by split <;> (unfold zR; omega)) (fun h6 => ?_) (fun h6 => ?_)
  · refine rr_iconst (n := 1) dX7_turnsToCrown_13 ?_
    have hnp := z_i10 h6
    refine rr_put (pc := 14) (ji := 7) dX7_turnsToCrown_14 fX7_59 fp_7_7 zk_116 zr_116_7 rfl ?_
    have o1 : zOfM W (zup W 116 7 1) := zOfM.rf.up (by omega)
    have t1 : zup W 116 7 1 116 7 = 1 := zup_s
    have a1 : zup W 116 7 1 117 = a := (zup_other 117 (by decide)).trans ha
    have k1 : zKp (zup W 116 7 1) n K := hH.u (by decide)
    generalize zup W 116 7 1 = W1 at o1 t1 a1 k1 ⊢
    refine rr_aload_n (pc := 17) dX7_turnsToCrown_17 rfl ?_
    refine rr_getI (pc := 18) (ji := 7) dX7_turnsToCrown_18 fX7_59 zk_116 zr_116_7 rfl ?_
    rw [t1]
    refine rr_if_le (pc := 21) (tgt := 26) dX7_turnsToCrown_21 (by decide) (by unfold zR; omega) (fun h21 => ?_) (fun h21 => ?_)
    · omega
    · refine rr_iconst (n := 0) dX7_turnsToCrown_24 ?_
      exact rr_reti (pc := 25) dX7_turnsToCrown_25 rfl rfl rfl rfl (hq1 hnp W1 o1 t1 k1 a1)
  · refine rr_iconst (n := 0) dX7_turnsToCrown_9 ?_
    refine rr_goto (pc := 10) (tgt := 14) dX7_turnsToCrown_10 (by decide) ?_
    have hpl := z_i10n h6
    have hp0 := hpl.1
    have hp1 := hpl.2
    refine rr_put (pc := 14) (ji := 7) dX7_turnsToCrown_14 fX7_59 fp_7_7 zk_116 zr_116_7 rfl ?_
    have o1 : zOfM W (zup W 116 7 0) := zOfM.rf.up (by omega)
    have t1 : zup W 116 7 0 116 7 = 0 := zup_s
    have a1 : zup W 116 7 0 117 = a := (zup_other 117 (by decide)).trans ha
    have k1 : zKp (zup W 116 7 0) n K := hH.u (by decide)
    generalize zup W 116 7 0 = W1 at o1 t1 a1 k1 ⊢
    refine rr_aload_n (pc := 17) dX7_turnsToCrown_17 rfl ?_
    refine rr_getI (pc := 18) (ji := 7) dX7_turnsToCrown_18 fX7_59 zk_116 zr_116_7 rfl ?_
    rw [t1]
    refine rr_if_le (pc := 21) (tgt := 26) dX7_turnsToCrown_21 (by decide) (by unfold zR; omega) (fun h21 => ?_) (fun h21 => ?_)
    · refine rr_aload_n (pc := 26) dX7_turnsToCrown_26 rfl ?_
      refine rr_iload_n (pc := 27) dX7_turnsToCrown_27 rfl ?_
      refine rr_inv0 (M' := MX7_plays) (k := 116) (As := [_]) (pc := 28) dX7_turnsToCrown_28 lX7_327 kX7_plays vX7_plays zk_116 (by decide) rfl (by decide) (by decide) (Nat.le_of_ble_eq_true rfl) rfl (eX7_plays a1 hw hT (by unfold zR; omega) (fun W2 o2 e7 e6 e120 ag hv => ?_))
      have hr9 : zR (vCr p a) := by
        have h4 : ∀ x : Int, -1 ≤ x → x < 2000 → zR x := fun x g1 g2 => by unfold zR; omega
        refine h4 _ ?_ ?_ <;> (have := vCr_rng (w := p) hw (by omega); omega)
      have kA := k1.M e6 e120
      refine rr_iconst (n := (-1)) dX7_turnsToCrown_31 ?_
      refine rr_icmp_ne (pc := 32) (tgt := 39) dX7_turnsToCrown_32 (by decide) hr9 (by unfold zR; omega) (fun h32 => ?_) (fun h32 => ?_)
      · refine rr_aload_n (pc := 39) dX7_turnsToCrown_39 rfl ?_
        have hv2 : W2 116 22 = (aUnt p 300 1 a).1 := by omega
        refine rr_getI (pc := 40) (ji := 22) dX7_turnsToCrown_40 fX7_315 zk_116 zr_116_22 rfl ?_
        rw [hv2]
        exact rr_reti (pc := 43) dX7_turnsToCrown_43 rfl rfl rfl rfl (hq hpl W2 (o1.tr o2) (e7.trans t1) kA ag)
      · refine rr_iconst (n := (-1)) dX7_turnsToCrown_35 ?_
        refine rr_goto (pc := 36) (tgt := 43) dX7_turnsToCrown_36 (by decide) ?_
        exact rr_reti (pc := 43) dX7_turnsToCrown_43 rfl rfl (by omega) rfl (hq hpl W2 (o1.tr o2) (e7.trans t1) kA ag)
    · omega
theorem dX7_firstThrough_0 : decode cX7_firstThrough 0 = .ok (.aload_n 0, 1) := by decide +kernel
theorem dX7_firstThrough_1 : decode cX7_firstThrough 1 = .ok (.iconst 0, 1) := by decide +kernel
theorem dX7_firstThrough_2 : decode cX7_firstThrough 2 = .ok (.putfield 59, 3) := by decide +kernel
theorem dX7_firstThrough_5 : decode cX7_firstThrough 5 = .ok (.aload_n 0, 1) := by decide +kernel
theorem dX7_firstThrough_6 : decode cX7_firstThrough 6 = .ok (.iconst (-1), 1) := by decide +kernel
theorem dX7_firstThrough_7 : decode cX7_firstThrough 7 = .ok (.invokevirtual 327, 3) := by decide +kernel
theorem dX7_firstThrough_10 : decode cX7_firstThrough 10 = .ok (.ireturn, 1) := by decide +kernel
theorem eX7_firstThrough {W : zWd} {a : Int → Int} {T n : Int} {K : Nat → (Int → Int)}  {Q : Option Value → zWd → Prop} {X : zX} (ha : W 117 = a) (hw : zWf T a) (hH : zKp W n K) (hT : T + 8000 ≤ 100000000) (hq : ∀ W' : zWd, zOfM W W' → W' 116 7 = 0 → zKp W' n K → (∀ i : Int, 0 ≤ i → i < 160 → W' 117 i = a i) → Q (some (zI (vFirst a))) W') : Ev MX7_firstThrough 9 0 W [.ref 116] Q X := by
  refine ev_of (ls := [.ref 116]) (by decide) rfl (fun _ => rfl) (fun _ => Nat.le_of_ble_eq_true rfl) (Or.inl rfl) ?_
  obtain ⟨w0, w0', wW, w1, w2, w2', w3, w3', w4, w4', w5, w5', w6, w6', w7, w7', wS, wP, wT⟩ := id hw
  have wq := zWf.sq hw
  refine rr_aload_n (pc := 0) dX7_firstThrough_0 rfl ?_
  refine rr_iconst (n := 0) dX7_firstThrough_1 ?_
  refine rr_put (pc := 2) (ji := 7) dX7_firstThrough_2 fX7_59 fp_7_7 zk_116 zr_116_7 rfl ?_
  have o1 : zOfM W (zup W 116 7 0) := zOfM.rf.up (by omega)
  have t1 : zup W 116 7 0 116 7 = 0 := zup_s
  have a1 : zup W 116 7 0 117 = a := (zup_other 117 (by decide)).trans ha
  have k1 : zKp (zup W 116 7 0) n K := hH.u (by decide)
  generalize zup W 116 7 0 = W1 at o1 t1 a1 k1 ⊢
  refine rr_aload_n (pc := 5) dX7_firstThrough_5 rfl ?_
  refine rr_iconst (n := (-1)) dX7_firstThrough_6 ?_
  refine rr_inv0 (M' := MX7_plays) (k := 116) (As := [_]) (pc := 7) dX7_firstThrough_7 lX7_327 kX7_plays vX7_plays zk_116 (by decide) rfl (by decide) (by decide) (Nat.le_of_ble_eq_true rfl) rfl (eX7_plays a1 hw hT (by unfold zR; omega) (fun W2 o2 e7 e6 e120 ag hv => ?_))
  exact rr_reti (pc := 10) dX7_firstThrough_10 rfl rfl (show vCr (-1) a = vFirst a from rfl) rfl (hq W2 (o1.tr o2) (e7.trans t1) (k1.M e6 e120) ag)
theorem dX7_restore_0 : decode cX7_restore 0 = .ok (.aload_n 0, 1) := by decide +kernel
theorem dX7_restore_1 : decode cX7_restore 1 = .ok (.iload_n 1, 1) := by decide +kernel
theorem dX7_restore_2 : decode cX7_restore 2 = .ok (.iconst 0, 1) := by decide +kernel
theorem dX7_restore_3 : decode cX7_restore 3 = .ok (.iconst 1, 1) := by decide +kernel
theorem dX7_restore_4 : decode cX7_restore 4 = .ok (.invokestatic 69, 3) := by decide +kernel
theorem dX7_restore_7 : decode cX7_restore 7 = .ok (.ifCond .ne 7, 3) := by decide +kernel
theorem dX7_restore_10 : decode cX7_restore 10 = .ok (.iconst 1, 1) := by decide +kernel
theorem dX7_restore_11 : decode cX7_restore 11 = .ok (.goto 17, 3) := by decide +kernel
theorem dX7_restore_14 : decode cX7_restore 14 = .ok (.aload_n 0, 1) := by decide +kernel
theorem dX7_restore_15 : decode cX7_restore 15 = .ok (.getfield 25, 3) := by decide +kernel
theorem dX7_restore_18 : decode cX7_restore 18 = .ok (.iload_n 1, 1) := by decide +kernel
theorem dX7_restore_19 : decode cX7_restore 19 = .ok (.baload, 1) := by decide +kernel
theorem dX7_restore_20 : decode cX7_restore 20 = .ok (.ifCond .eq 7, 3) := by decide +kernel
theorem dX7_restore_23 : decode cX7_restore 23 = .ok (.iconst 0, 1) := by decide +kernel
theorem dX7_restore_24 : decode cX7_restore 24 = .ok (.goto 4, 3) := by decide +kernel
theorem dX7_restore_27 : decode cX7_restore 27 = .ok (.iconst 2, 1) := by decide +kernel
theorem dX7_restore_28 : decode cX7_restore 28 = .ok (.putfield 59, 3) := by decide +kernel
theorem dX7_restore_31 : decode cX7_restore 31 = .ok (.aload_n 0, 1) := by decide +kernel
theorem dX7_restore_32 : decode cX7_restore 32 = .ok (.getfield 59, 3) := by decide +kernel
theorem dX7_restore_35 : decode cX7_restore 35 = .ok (.ifCond .le 5, 3) := by decide +kernel
theorem dX7_restore_38 : decode cX7_restore 38 = .ok (.iconst 0, 1) := by decide +kernel
theorem dX7_restore_39 : decode cX7_restore 39 = .ok (.ireturn, 1) := by decide +kernel
theorem dX7_restore_40 : decode cX7_restore 40 = .ok (.aload_n 0, 1) := by decide +kernel
theorem dX7_restore_41 : decode cX7_restore 41 = .ok (.aload_n 0, 1) := by decide +kernel
theorem dX7_restore_42 : decode cX7_restore 42 = .ok (.getfield 7, 3) := by decide +kernel
theorem dX7_restore_45 : decode cX7_restore 45 = .ok (.invokevirtual 73, 3) := by decide +kernel
theorem dX7_restore_48 : decode cX7_restore 48 = .ok (.aload_n 0, 1) := by decide +kernel
theorem dX7_restore_49 : decode cX7_restore 49 = .ok (.getfield 7, 3) := by decide +kernel
theorem dX7_restore_52 : decode cX7_restore 52 = .ok (.iconst 0, 1) := by decide +kernel
theorem dX7_restore_53 : decode cX7_restore 53 = .ok (.aload_n 0, 1) := by decide +kernel
theorem dX7_restore_54 : decode cX7_restore 54 = .ok (.getfield 22, 3) := by decide +kernel
theorem dX7_restore_57 : decode cX7_restore 57 = .ok (.sipush 160, 3) := by decide +kernel
theorem dX7_restore_60 : decode cX7_restore 60 = .ok (.iload_n 1, 1) := by decide +kernel
theorem dX7_restore_61 : decode cX7_restore 61 = .ok (.imul, 1) := by decide +kernel
theorem dX7_restore_62 : decode cX7_restore 62 = .ok (.invokestatic 65, 3) := by decide +kernel
theorem dX7_restore_65 : decode cX7_restore 65 = .ok (.aload_n 0, 1) := by decide +kernel
theorem dX7_restore_66 : decode cX7_restore 66 = .ok (.getfield 7, 3) := by decide +kernel
theorem dX7_restore_69 : decode cX7_restore 69 = .ok (.iconst 4, 1) := by decide +kernel
theorem dX7_restore_70 : decode cX7_restore 70 = .ok (.iaload, 1) := by decide +kernel
theorem dX7_restore_71 : decode cX7_restore 71 = .ok (.ireturn, 1) := by decide +kernel
theorem eX7_restore {W : zWd} {a : Int → Int} {T n : Int} {K : Nat → (Int → Int)} {s : Int} {B : Int → Prop} {S : Int → (Int → Int)}  {Q : Option Value → zWd → Prop} {X : zX} (ha : W 117 = a) (hw : zWf T a) (hH : zKp W n K) (hS : zSm W B S) (hz : zR s) (hq : (0 ≤ s ∧ s ≤ 1) → B s → ∀ W' : zWd, zOfM W W' → W' 116 7 = 0 → zKp W' (if n + 1 < 8 then n + 1 else 8) (zPush a K) → (∀ i : Int, 0 ≤ i → i < 160 → W' 117 i = S s i) → Q (some (zI (S s 4))) W') (hq1 : ¬ (0 ≤ s ∧ s ≤ 1) → ∀ W' : zWd, zOfM W W' → W' 116 7 = 1 → zKp W' n K → W' 117 = a → Q (some (zI 0)) W') (hq2 : (0 ≤ s ∧ s ≤ 1) → ¬ B s → ∀ W' : zWd, zOfM W W' → W' 116 7 = 2 → zKp W' n K → W' 117 = a → Q (some (zI 0)) W')  : Ev MX7_restore 2 0 W [.ref 116, zI s] Q X := by
  refine ev_of (ls := [.ref 116, zI s]) (by decide) rfl (fun _ => rfl) (fun _ => Nat.le_of_ble_eq_true rfl) (Or.inl rfl) ?_
  have w4 : True := trivial
  refine rr_aload_n (pc := 0) dX7_restore_0 rfl ?_
  refine rr_iload_n (pc := 1) dX7_restore_1 rfl ?_
  refine rr_iconst (n := 0) dX7_restore_2 ?_
  refine rr_iconst (n := 1) dX7_restore_3 ?_
  refine rr_sta0 (M' := MX7_isIn) (As := [_, _, _]) (pc := 4) dX7_restore_4 lX7_69 kX7_isIn sX7_isIn (by decide) (by decide) (Nat.le_of_ble_eq_true rfl) rfl (eX7_isIn hz (by unfold zR; omega) (by unfold zR; omega) ?_)
  refine rr_if_ne (pc := 7) (tgt := 14) dX7_restore_7 (by decide) (by split <;> (unfold zR; omega)) (fun h7 => ?_) (fun h7 => ?_)
  · have hin := z_i10n h7
    have hSs := hS s (by omega) (by omega)
    refine rr_aload_n (pc := 14) dX7_restore_14 rfl ?_
    refine rr_getR (pc := 15) dX7_restore_15 fX7_25 zk_116 zr_116_5 ?_
    refine rr_iload_n (pc := 18) dX7_restore_18 rfl ?_
    refine rr_zald (pc := 19) dX7_restore_19 zk_122 (by omega) (by omega) ?_
    refine rr_if_eq (pc := 20) (tgt := 27) dX7_restore_20 (by decide) (by rcases hSs with z | z <;> (rw [z.1]; unfold zR; omega)) (fun h20 => ?_) (fun h20 => ?_)
    · refine rr_iconst (n := 2) dX7_restore_27 ?_
      have hB : ¬ B s := by rcases hSs with z | z; exact z.2; exact absurd h20 (by rw [z.1]; omega)
      refine rr_put (pc := 28) (ji := 7) dX7_restore_28 fX7_59 fp_7_7 zk_116 zr_116_7 rfl ?_
      have o1 : zOfM W (zup W 116 7 2) := zOfM.rf.up (by omega)
      have t1 : zup W 116 7 2 116 7 = 2 := zup_s
      have a1 : zup W 116 7 2 117 = a := (zup_other 117 (by decide)).trans ha
      have k1 : zKp (zup W 116 7 2) n K := hH.u (by decide)
      generalize zup W 116 7 2 = W1 at o1 t1 a1 k1 ⊢
      refine rr_aload_n (pc := 31) dX7_restore_31 rfl ?_
      refine rr_getI (pc := 32) (ji := 7) dX7_restore_32 fX7_59 zk_116 zr_116_7 rfl ?_
      rw [t1]
      refine rr_if_le (pc := 35) (tgt := 40) dX7_restore_35 (by decide) (by unfold zR; omega) (fun h35 => ?_) (fun h35 => ?_)
      · omega
      · refine rr_iconst (n := 0) dX7_restore_38 ?_
        exact rr_reti (pc := 39) dX7_restore_39 rfl rfl rfl rfl (hq2 hin hB W1 o1 t1 k1 a1)
    · refine rr_iconst (n := 0) dX7_restore_23 ?_
      refine rr_goto (pc := 24) (tgt := 28) dX7_restore_24 (by decide) ?_
      have hB : B s ∧ ∀ j : Int, 0 ≤ j → j < 160 → W 121 (160 * s + j) = S s j := by
        rcases hSs with z | z
        · exact absurd z.1 h20
        · exact z.2
      refine rr_put (pc := 28) (ji := 7) dX7_restore_28 fX7_59 fp_7_7 zk_116 zr_116_7 rfl ?_
      have o1 : zOfM W (zup W 116 7 0) := zOfM.rf.up (by omega)
      have t1 : zup W 116 7 0 116 7 = 0 := zup_s
      have a1 : zup W 116 7 0 117 = a := (zup_other 117 (by decide)).trans ha
      have k1 : zKp (zup W 116 7 0) n K := hH.u (by decide)
      generalize zup W 116 7 0 = W1 at o1 t1 a1 k1 ⊢
      refine rr_aload_n (pc := 31) dX7_restore_31 rfl ?_
      refine rr_getI (pc := 32) (ji := 7) dX7_restore_32 fX7_59 zk_116 zr_116_7 rfl ?_
      rw [t1]
      refine rr_if_le (pc := 35) (tgt := 40) dX7_restore_35 (by decide) (by unfold zR; omega) (fun h35 => ?_) (fun h35 => ?_)
      · refine rr_aload_n (pc := 40) dX7_restore_40 rfl ?_
        refine rr_aload_n (pc := 41) dX7_restore_41 rfl ?_
        refine rr_getR (pc := 42) dX7_restore_42 fX7_7 zk_116 zr_116_0 ?_
        refine rr_inv0 (M' := MX7_keeps) (k := 116) (As := [_]) (pc := 45) dX7_restore_45 lX7_73 kX7_keeps vX7_keeps zk_116 (by decide) rfl (by decide) (by decide) (Nat.le_of_ble_eq_true rfl) rfl (eX7_keeps zk_117 (by decide) (by decide) (by decide) k1 (fun W2 o2 k2 => ?_))
        rw [a1] at k2
        have oA := o1.tr o2.M
        have tA : W2 116 7 = 0 := (o2.2 7 (by decide)).trans t1
        have a2 : W2 117 = a := (o2.1 117 (by decide) (by decide)).trans a1
        have d2 : ∀ j : Int, 0 ≤ j → j < 160 → W2 121 (160 * s + j) = S s j := fun j g1 g2 => by rw [oA.1 121 (by decide) (by decide) (by decide) (by decide) (by decide) (by decide) (by decide) (by decide)]; exact hB.2 j g1 g2
        refine rr_aload_n (pc := 48) dX7_restore_48 rfl ?_
        refine rr_getR (pc := 49) dX7_restore_49 fX7_7 zk_116 zr_116_0 ?_
        refine rr_iconst (n := 0) dX7_restore_52 ?_
        refine rr_aload_n (pc := 53) dX7_restore_53 rfl ?_
        refine rr_getR (pc := 54) dX7_restore_54 fX7_22 zk_116 zr_116_4 ?_
        refine rr_sipush (n := (160)) dX7_restore_57 ?_
        refine rr_iload_n (pc := 60) dX7_restore_60 rfl ?_
        refine rr_imul (pc := 61) dX7_restore_61 ?_
        refine rr_sta0 (M' := MX7_copies) (As := [_, _, _, _]) (pc := 62) dX7_restore_62 lX7_65 kX7_copies sX7_copies (by decide) (by decide) (Nat.le_of_ble_eq_true rfl) rfl (eX7_copies (W := W2) (n1 := 160) (n0 := 320) zk_117 zk_121 (by decide) (by omega) (by omega) (by omega) (by omega) ?_)
        have e9 : ∀ i : Int, 0 ≤ i → i < 160 → zC160 W2 117 121 0 (160 * s) 160 117 i = S s i := fun i g1 g2 => by unfold zC160; rw [if_pos ⟨rfl, by omega, by omega⟩, ← d2 i g1 g2]; congr 1; omega
        refine rr_aload_n (pc := 65) dX7_restore_65 rfl ?_
        refine rr_getR (pc := 66) dX7_restore_66 fX7_7 zk_116 zr_116_0 ?_
        refine rr_iconst (n := 4) dX7_restore_69 ?_
        refine rr_iald (pc := 70) dX7_restore_70 zk_117 (by omega) (by omega) ?_
        rw [e9 4 (by omega) (by omega)]
        exact rr_reti (pc := 71) dX7_restore_71 rfl rfl rfl rfl (hq hin hB.1 _ ⟨fun k g1 g2 g3 g4 g5 g6 g7 g8 => by rw [zC160_o g2]; exact oA.1 k g1 g2 g3 g4 g5 g6 g7 g8, fun j g1 g2 g3 g4 g5 g6 g7 => by rw [zC160_o (by decide)]; exact oA.2 j g1 g2 g3 g4 g5 g6 g7⟩ (by rw [zC160_o (by decide)]; exact tA) (k2.M (by rw [zC160_o (by decide)]) (zC160_o (by decide))) e9)
      · omega
  · refine rr_iconst (n := 1) dX7_restore_10 ?_
    refine rr_goto (pc := 11) (tgt := 28) dX7_restore_11 (by decide) ?_
    have hnp := z_i10 h7
    refine rr_put (pc := 28) (ji := 7) dX7_restore_28 fX7_59 fp_7_7 zk_116 zr_116_7 rfl ?_
    have o1 : zOfM W (zup W 116 7 1) := zOfM.rf.up (by omega)
    have t1 : zup W 116 7 1 116 7 = 1 := zup_s
    have a1 : zup W 116 7 1 117 = a := (zup_other 117 (by decide)).trans ha
    have k1 : zKp (zup W 116 7 1) n K := hH.u (by decide)
    generalize zup W 116 7 1 = W1 at o1 t1 a1 k1 ⊢
    refine rr_aload_n (pc := 31) dX7_restore_31 rfl ?_
    refine rr_getI (pc := 32) (ji := 7) dX7_restore_32 fX7_59 zk_116 zr_116_7 rfl ?_
    rw [t1]
    refine rr_if_le (pc := 35) (tgt := 40) dX7_restore_35 (by decide) (by unfold zR; omega) (fun h35 => ?_) (fun h35 => ?_)
    · omega
    · refine rr_iconst (n := 0) dX7_restore_38 ?_
      exact rr_reti (pc := 39) dX7_restore_39 rfl rfl rfl rfl (hq1 hnp W1 o1 t1 k1 a1)
theorem dX7_setDrift_0 : decode cX7_setDrift 0 = .ok (.aload_n 0, 1) := by decide +kernel
theorem dX7_setDrift_1 : decode cX7_setDrift 1 = .ok (.iload_n 1, 1) := by decide +kernel
theorem dX7_setDrift_2 : decode cX7_setDrift 2 = .ok (.bipush (-9), 2) := by decide +kernel
theorem dX7_setDrift_4 : decode cX7_setDrift 4 = .ok (.bipush 9, 2) := by decide +kernel
theorem dX7_setDrift_6 : decode cX7_setDrift 6 = .ok (.invokestatic 69, 3) := by decide +kernel
theorem dX7_setDrift_9 : decode cX7_setDrift 9 = .ok (.ifCond .eq 7, 3) := by decide +kernel
theorem dX7_setDrift_12 : decode cX7_setDrift 12 = .ok (.iconst 0, 1) := by decide +kernel
theorem dX7_setDrift_13 : decode cX7_setDrift 13 = .ok (.goto 4, 3) := by decide +kernel
theorem dX7_setDrift_16 : decode cX7_setDrift 16 = .ok (.iconst 1, 1) := by decide +kernel
theorem dX7_setDrift_17 : decode cX7_setDrift 17 = .ok (.putfield 59, 3) := by decide +kernel
theorem dX7_setDrift_20 : decode cX7_setDrift 20 = .ok (.aload_n 0, 1) := by decide +kernel
theorem dX7_setDrift_21 : decode cX7_setDrift 21 = .ok (.getfield 59, 3) := by decide +kernel
theorem dX7_setDrift_24 : decode cX7_setDrift 24 = .ok (.ifCond .le 5, 3) := by decide +kernel
theorem dX7_setDrift_27 : decode cX7_setDrift 27 = .ok (.iconst 0, 1) := by decide +kernel
theorem dX7_setDrift_28 : decode cX7_setDrift 28 = .ok (.ireturn, 1) := by decide +kernel
theorem dX7_setDrift_29 : decode cX7_setDrift 29 = .ok (.aload_n 0, 1) := by decide +kernel
theorem dX7_setDrift_30 : decode cX7_setDrift 30 = .ok (.aload_n 0, 1) := by decide +kernel
theorem dX7_setDrift_31 : decode cX7_setDrift 31 = .ok (.getfield 7, 3) := by decide +kernel
theorem dX7_setDrift_34 : decode cX7_setDrift 34 = .ok (.invokevirtual 73, 3) := by decide +kernel
theorem dX7_setDrift_37 : decode cX7_setDrift 37 = .ok (.aload_n 0, 1) := by decide +kernel
theorem dX7_setDrift_38 : decode cX7_setDrift 38 = .ok (.getfield 7, 3) := by decide +kernel
theorem dX7_setDrift_41 : decode cX7_setDrift 41 = .ok (.iconst 3, 1) := by decide +kernel
theorem dX7_setDrift_42 : decode cX7_setDrift 42 = .ok (.iaload, 1) := by decide +kernel
theorem dX7_setDrift_43 : decode cX7_setDrift 43 = .ok (.bipush 9, 2) := by decide +kernel
theorem dX7_setDrift_45 : decode cX7_setDrift 45 = .ok (.iadd, 1) := by decide +kernel
theorem dX7_setDrift_46 : decode cX7_setDrift 46 = .ok (.istore_n 2, 1) := by decide +kernel
theorem dX7_setDrift_47 : decode cX7_setDrift 47 = .ok (.aload_n 0, 1) := by decide +kernel
theorem dX7_setDrift_48 : decode cX7_setDrift 48 = .ok (.getfield 7, 3) := by decide +kernel
theorem dX7_setDrift_51 : decode cX7_setDrift 51 = .ok (.iconst 3, 1) := by decide +kernel
theorem dX7_setDrift_52 : decode cX7_setDrift 52 = .ok (.iload_n 1, 1) := by decide +kernel
theorem dX7_setDrift_53 : decode cX7_setDrift 53 = .ok (.iastore, 1) := by decide +kernel
theorem dX7_setDrift_54 : decode cX7_setDrift 54 = .ok (.iload_n 2, 1) := by decide +kernel
theorem dX7_setDrift_55 : decode cX7_setDrift 55 = .ok (.ireturn, 1) := by decide +kernel
theorem eX7_setDrift {W : zWd} {a : Int → Int} {T n : Int} {K : Nat → (Int → Int)} {v : Int}  {Q : Option Value → zWd → Prop} {X : zX} (ha : W 117 = a) (hw : zWf T a) (hH : zKp W n K) (hz : zR v) (hq : (-9 ≤ v ∧ v ≤ 9) → ∀ W' : zWd, zOfM W W' → W' 116 7 = 0 → zKp W' (if n + 1 < 8 then n + 1 else 8) (zPush a K) → W' 117 = iup a 3 v → Q (some (zI (a 3 + 9))) W') (hq1 : ¬ (-9 ≤ v ∧ v ≤ 9) → ∀ W' : zWd, zOfM W W' → W' 116 7 = 1 → zKp W' n K → W' 117 = a → Q (some (zI 0)) W')  : Ev MX7_setDrift 2 0 W [.ref 116, zI v] Q X := by
  refine ev_of (ls := [.ref 116, zI v, .null]) (by decide) rfl (fun _ => rfl) (fun _ => Nat.le_of_ble_eq_true rfl) (Or.inl rfl) ?_
  obtain ⟨w0, w0', wW, w1, w2, w2', w3, w3', w4, w4', w5, w5', w6, w6', w7, w7', wS, wP, wT⟩ := id hw
  have wq := zWf.sq hw
  refine rr_aload_n (pc := 0) dX7_setDrift_0 rfl ?_
  refine rr_iload_n (pc := 1) dX7_setDrift_1 rfl ?_
  refine rr_bipush (n := (-9)) dX7_setDrift_2 ?_
  refine rr_bipush (n := (9)) dX7_setDrift_4 ?_
  refine rr_sta0 (M' := MX7_isIn) (As := [_, _, _]) (pc := 6) dX7_setDrift_6 lX7_69 kX7_isIn sX7_isIn (by decide) (by decide) (Nat.le_of_ble_eq_true rfl) rfl (eX7_isIn hz (by unfold zR; omega) (by unfold zR; omega) ?_)
  refine rr_if_eq (pc := 9) (tgt := 16) dX7_setDrift_9 (by decide) (by split <;> (unfold zR; omega)) (fun h9 => ?_) (fun h9 => ?_)
  · refine rr_iconst (n := 1) dX7_setDrift_16 ?_
    have hnp := z_i10 h9
    refine rr_put (pc := 17) (ji := 7) dX7_setDrift_17 fX7_59 fp_7_7 zk_116 zr_116_7 rfl ?_
    have o1 : zOfM W (zup W 116 7 1) := zOfM.rf.up (by omega)
    have t1 : zup W 116 7 1 116 7 = 1 := zup_s
    have a1 : zup W 116 7 1 117 = a := (zup_other 117 (by decide)).trans ha
    have k1 : zKp (zup W 116 7 1) n K := hH.u (by decide)
    generalize zup W 116 7 1 = W1 at o1 t1 a1 k1 ⊢
    refine rr_aload_n (pc := 20) dX7_setDrift_20 rfl ?_
    refine rr_getI (pc := 21) (ji := 7) dX7_setDrift_21 fX7_59 zk_116 zr_116_7 rfl ?_
    rw [t1]
    refine rr_if_le (pc := 24) (tgt := 29) dX7_setDrift_24 (by decide) (by unfold zR; omega) (fun h24 => ?_) (fun h24 => ?_)
    · omega
    · refine rr_iconst (n := 0) dX7_setDrift_27 ?_
      exact rr_reti (pc := 28) dX7_setDrift_28 rfl rfl rfl rfl (hq1 hnp W1 o1 t1 k1 a1)
  · refine rr_iconst (n := 0) dX7_setDrift_12 ?_
    refine rr_goto (pc := 13) (tgt := 17) dX7_setDrift_13 (by decide) ?_
    have hpl := z_i10n h9
    refine rr_put (pc := 17) (ji := 7) dX7_setDrift_17 fX7_59 fp_7_7 zk_116 zr_116_7 rfl ?_
    have o1 : zOfM W (zup W 116 7 0) := zOfM.rf.up (by omega)
    have t1 : zup W 116 7 0 116 7 = 0 := zup_s
    have a1 : zup W 116 7 0 117 = a := (zup_other 117 (by decide)).trans ha
    have k1 : zKp (zup W 116 7 0) n K := hH.u (by decide)
    generalize zup W 116 7 0 = W1 at o1 t1 a1 k1 ⊢
    refine rr_aload_n (pc := 20) dX7_setDrift_20 rfl ?_
    refine rr_getI (pc := 21) (ji := 7) dX7_setDrift_21 fX7_59 zk_116 zr_116_7 rfl ?_
    rw [t1]
    refine rr_if_le (pc := 24) (tgt := 29) dX7_setDrift_24 (by decide) (by unfold zR; omega) (fun h24 => ?_) (fun h24 => ?_)
    · refine rr_aload_n (pc := 29) dX7_setDrift_29 rfl ?_
      refine rr_aload_n (pc := 30) dX7_setDrift_30 rfl ?_
      refine rr_getR (pc := 31) dX7_setDrift_31 fX7_7 zk_116 zr_116_0 ?_
      refine rr_inv0 (M' := MX7_keeps) (k := 116) (As := [_]) (pc := 34) dX7_setDrift_34 lX7_73 kX7_keeps vX7_keeps zk_116 (by decide) rfl (by decide) (by decide) (Nat.le_of_ble_eq_true rfl) rfl (eX7_keeps zk_117 (by decide) (by decide) (by decide) k1 (fun W2 o2 k2 => ?_))
      rw [a1] at k2
      have oA := o1.tr o2.M
      have tA : W2 116 7 = 0 := (o2.2 7 (by decide)).trans t1
      have a2 : W2 117 = a := (o2.1 117 (by decide) (by decide)).trans a1
      refine rr_aload_n (pc := 37) dX7_setDrift_37 rfl ?_
      refine rr_getR (pc := 38) dX7_setDrift_38 fX7_7 zk_116 zr_116_0 ?_
      refine rr_iconst (n := 3) dX7_setDrift_41 ?_
      refine rr_iald (pc := 42) dX7_setDrift_42 zk_117 (by omega) (by omega) ?_
      rw [a2]
      refine rr_bipush (n := (9)) dX7_setDrift_43 ?_
      refine rr_iadd (pc := 45) dX7_setDrift_45 ?_
      refine rr_istore_n (pc := 46) dX7_setDrift_46 (by decide) ?_
      refine rr_aload_n (pc := 47) dX7_setDrift_47 rfl ?_
      refine rr_getR (pc := 48) dX7_setDrift_48 fX7_7 zk_116 zr_116_0 ?_
      refine rr_iconst (n := 3) dX7_setDrift_51 ?_
      refine rr_iload_n (pc := 52) dX7_setDrift_52 rfl ?_
      refine rr_iast (pc := 53) dX7_setDrift_53 zk_117 (by omega) (by omega) ?_
      refine rr_iload_n (pc := 54) dX7_setDrift_54 rfl ?_
      exact rr_reti (pc := 55) dX7_setDrift_55 rfl rfl rfl rfl (hq hpl _ (oA.tr zOfm.rf.up.M) (by rw [zup_other 116 (by decide)]; exact tA) (k2.m zOfm.rf.up) (by rw [zup_at, a2]))
    · omega
theorem hmb0 {a : Int → Int} {v : Int} : zMayB a 0 v ↔ 1 ≤ v ∧ v ≤ 4 := by
  unfold zMayB vHi; rw [if_pos rfl, if_neg (by decide)]; omega
theorem hmb1 {a : Int → Int} {v : Int} : zMayB a 1 v ↔ 1 ≤ v ∧ v ≤ 9 := by
  unfold zMayB vHi; rw [if_neg (by decide), if_neg (by decide), if_pos rfl]; omega
theorem hmb2 {a : Int → Int} {v : Int} : zMayB a 2 v ↔ 1 ≤ v ∧ v ≤ a 1 := by
  unfold zMayB vHi; rw [if_neg (by decide), if_neg (by decide), if_neg (by decide), if_neg (by decide)]; omega
theorem hmb3 {a : Int → Int} {v : Int} : zMayB a 3 v ↔ 0 ≤ v ∧ v ≤ 9 := by
  unfold zMayB vHi; rw [if_pos rfl, if_neg (by decide), if_neg (by decide), if_pos rfl]; omega
theorem z_yn {P Z : Prop} [Decidable P] {Q : Option Value → zWd → Prop} {W : zWd} (h : Z ↔ P) (h0 : ¬ Z → Q (some (zI 0)) W) (h1 : Z → Q (some (zI 1)) W) : Q (some (zI (if P then 1 else 0))) W := by
  by_cases z : P
  · rw [if_pos z]; exact h1 (h.mpr z)
  · rw [if_neg z]; exact h0 (fun y => z (h.mp y))
theorem dX7_mayBe_0 : decode cX7_mayBe 0 = .ok (.iload_n 1, 1) := by decide +kernel
theorem dX7_mayBe_1 : decode cX7_mayBe 1 = .ok (.tableswitch 60 0 3 #[31, 38, 46, 52], 31) := by decide +kernel
theorem dX7_mayBe_32 : decode cX7_mayBe 32 = .ok (.iload_n 2, 1) := by decide +kernel
theorem dX7_mayBe_33 : decode cX7_mayBe 33 = .ok (.iconst 1, 1) := by decide +kernel
theorem dX7_mayBe_34 : decode cX7_mayBe 34 = .ok (.iconst 4, 1) := by decide +kernel
theorem dX7_mayBe_35 : decode cX7_mayBe 35 = .ok (.invokestatic 69, 3) := by decide +kernel
theorem dX7_mayBe_38 : decode cX7_mayBe 38 = .ok (.ireturn, 1) := by decide +kernel
theorem dX7_mayBe_39 : decode cX7_mayBe 39 = .ok (.iload_n 2, 1) := by decide +kernel
theorem dX7_mayBe_40 : decode cX7_mayBe 40 = .ok (.iconst 1, 1) := by decide +kernel
theorem dX7_mayBe_41 : decode cX7_mayBe 41 = .ok (.bipush 9, 2) := by decide +kernel
theorem dX7_mayBe_43 : decode cX7_mayBe 43 = .ok (.invokestatic 69, 3) := by decide +kernel
theorem dX7_mayBe_46 : decode cX7_mayBe 46 = .ok (.ireturn, 1) := by decide +kernel
theorem dX7_mayBe_47 : decode cX7_mayBe 47 = .ok (.aload_n 0, 1) := by decide +kernel
theorem dX7_mayBe_48 : decode cX7_mayBe 48 = .ok (.iload_n 2, 1) := by decide +kernel
theorem dX7_mayBe_49 : decode cX7_mayBe 49 = .ok (.invokevirtual 288, 3) := by decide +kernel
theorem dX7_mayBe_52 : decode cX7_mayBe 52 = .ok (.ireturn, 1) := by decide +kernel
theorem dX7_mayBe_53 : decode cX7_mayBe 53 = .ok (.iload_n 2, 1) := by decide +kernel
theorem dX7_mayBe_54 : decode cX7_mayBe 54 = .ok (.iconst 0, 1) := by decide +kernel
theorem dX7_mayBe_55 : decode cX7_mayBe 55 = .ok (.bipush 9, 2) := by decide +kernel
theorem dX7_mayBe_57 : decode cX7_mayBe 57 = .ok (.invokestatic 69, 3) := by decide +kernel
theorem dX7_mayBe_60 : decode cX7_mayBe 60 = .ok (.ireturn, 1) := by decide +kernel
theorem dX7_mayBe_61 : decode cX7_mayBe 61 = .ok (.iconst 0, 1) := by decide +kernel
theorem dX7_mayBe_62 : decode cX7_mayBe 62 = .ok (.ireturn, 1) := by decide +kernel
theorem eX7_mayBe {W : zWd} {a : Int → Int} {T w v : Int}  {Q : Option Value → zWd → Prop} {X : zX} (ha : W 117 = a) (hw : zWf T a) (hz : zR w) (hz2 : zR v) (hq0 : ¬ zMayB a w v → Q (some (zI 0)) W) (hq1 : zMayB a w v → Q (some (zI 1)) W) : Ev MX7_mayBe 2 0 W [.ref 116, zI w, zI v] Q X := by
  refine ev_of (ls := [.ref 116, zI w, zI v]) (by decide) rfl (fun _ => rfl) (fun _ => Nat.le_of_ble_eq_true rfl) (Or.inl rfl) ?_
  obtain ⟨w0, w0', wW, w1, w2, w2', w3, w3', w4, w4', w5, w5', w6, w6', w7, w7', wS, wP, wT⟩ := id hw
  have wq := zWf.sq hw
  refine rr_iload_n (pc := 0) dX7_mayBe_0 rfl ?_
  by_cases hsw : 0 ≤ w ∧ w ≤ 3
  · have hsv : w = 0 ∨ w = 1 ∨ w = 2 ∨ w = 3 := by omega
    rcases hsv with rfl | rfl | rfl | rfl
    · refine rr_tabI (pc := 1) (tgt := 32) dX7_mayBe_1 (by unfold zR; omega) (by decide) (by decide) rfl (by decide) ?_
      refine rr_iload_n (pc := 32) dX7_mayBe_32 rfl ?_
      refine rr_iconst (n := 1) dX7_mayBe_33 ?_
      refine rr_iconst (n := 4) dX7_mayBe_34 ?_
      refine rr_sta0 (M' := MX7_isIn) (As := [_, _, _]) (pc := 35) dX7_mayBe_35 lX7_69 kX7_isIn sX7_isIn (by decide) (by decide) (Nat.le_of_ble_eq_true rfl) rfl (eX7_isIn hz2 (by unfold zR; omega) (by unfold zR; omega) ?_)
      exact rr_reti (pc := 38) dX7_mayBe_38 rfl z_nb rfl rfl (z_yn hmb0 hq0 hq1)
    · refine rr_tabI (pc := 1) (tgt := 39) dX7_mayBe_1 (by unfold zR; omega) (by decide) (by decide) rfl (by decide) ?_
      refine rr_iload_n (pc := 39) dX7_mayBe_39 rfl ?_
      refine rr_iconst (n := 1) dX7_mayBe_40 ?_
      refine rr_bipush (n := (9)) dX7_mayBe_41 ?_
      refine rr_sta0 (M' := MX7_isIn) (As := [_, _, _]) (pc := 43) dX7_mayBe_43 lX7_69 kX7_isIn sX7_isIn (by decide) (by decide) (Nat.le_of_ble_eq_true rfl) rfl (eX7_isIn hz2 (by unfold zR; omega) (by unfold zR; omega) ?_)
      exact rr_reti (pc := 46) dX7_mayBe_46 rfl z_nb rfl rfl (z_yn hmb1 hq0 hq1)
    · refine rr_tabI (pc := 1) (tgt := 47) dX7_mayBe_1 (by unfold zR; omega) (by decide) (by decide) rfl (by decide) ?_
      refine rr_aload_n (pc := 47) dX7_mayBe_47 rfl ?_
      refine rr_iload_n (pc := 48) dX7_mayBe_48 rfl ?_
      refine rr_inv0 (M' := MX7_isSquare) (k := 116) (As := [_]) (pc := 49) dX7_mayBe_49 lX7_288 kX7_isSquare vX7_isSquare zk_116 (by decide) rfl (by decide) (by decide) (Nat.le_of_ble_eq_true rfl) rfl (eX7_isSquare ha hw hz2 ?_)
      exact rr_reti (pc := 52) dX7_mayBe_52 rfl z_nb rfl rfl (z_yn hmb2 hq0 hq1)
    · refine rr_tabI (pc := 1) (tgt := 53) dX7_mayBe_1 (by unfold zR; omega) (by decide) (by decide) rfl (by decide) ?_
      refine rr_iload_n (pc := 53) dX7_mayBe_53 rfl ?_
      refine rr_iconst (n := 0) dX7_mayBe_54 ?_
      refine rr_bipush (n := (9)) dX7_mayBe_55 ?_
      refine rr_sta0 (M' := MX7_isIn) (As := [_, _, _]) (pc := 57) dX7_mayBe_57 lX7_69 kX7_isIn sX7_isIn (by decide) (by decide) (Nat.le_of_ble_eq_true rfl) rfl (eX7_isIn hz2 (by unfold zR; omega) (by unfold zR; omega) ?_)
      exact rr_reti (pc := 60) dX7_mayBe_60 rfl z_nb rfl rfl (z_yn hmb3 hq0 hq1)
  · refine rr_tabO (pc := 1) (tgt := 61) dX7_mayBe_1 hz (by omega) (by decide) ?_
    refine rr_iconst (n := 0) dX7_mayBe_61 ?_
    exact rr_reti (pc := 62) dX7_mayBe_62 rfl rfl rfl rfl (hq0 (fun z => by unfold zMayB at z; omega))
/-- no target is forbidden, but where all squares are -/
def zTg (a : Int → Int) : Prop := ∀ p : Int, 0 ≤ p → p < a 2 → (aP a p 2 = 0 ∧ aOpen a p 1 = 0) ∨ (1 ≤ aP a p 2 ∧ ¬ aForb a p (aP a p 2))
theorem aMendT_tg {a : Int → Int} {p : Int} (h : (aP a p 2 = 0 ∧ aOpen a p 1 = 0) ∨ (1 ≤ aP a p 2 ∧ ¬ aForb a p (aP a p 2))) : aMendT a p = aP a p 2 := by
  unfold aMendT
  rcases h with ⟨h1, h2⟩ | ⟨h1, h2⟩
  · rw [h1, if_pos (Or.inl rfl), show (0 : Int) + 1 = 1 from rfl, h2, if_pos rfl]
  · rw [if_neg (fun z => z.elim (fun y => by omega) h2)]
theorem aRight_g {T : Int} {b x : Int → Int} {p : Int} (hw : zWf T b) (h0 : 0 ≤ p) (h1 : p < b 2) (hz : aP b p 2 = 0 → aOpen b p 1 = 0) (e2 : aP x p 2 = aP b p 2) (eo : ∀ s : Int, aOpen x p s = aOpen b p s) : aRight x p = iup x (58 + 17 * p + 2) (aMendT b p) := by
  have hm2 := hw.2.2.2.2.2.2.2.2.2.2.2.2.2.2.2.2.2.1 p h0 h1
  unfold zWfP at hm2
  unfold aRight aRnd aMendT
  rw [e2, eo, eo]
  by_cases z : aP b p 2 = 0
  · rw [if_neg (by omega), if_pos (Or.inl z), z, show (0 : Int) + 1 = 1 from rfl, hz z, if_pos rfl, ← z, ← e2]
    exact iup_id.symm
  · rw [if_pos (by omega)]
    by_cases y : aForb b p (aP b p 2)
    · rw [aOpen_y (by omega) y, if_pos (Or.inr y)]
      have ho := aOpen_rng (a := b) (p := p) (s := aP b p 2 + 1) (by omega) (by omega)
      by_cases u : aOpen b p (aP b p 2 + 1) = 0
      · rw [if_neg (by omega), if_pos u]
      · rw [if_pos (by omega), if_neg u]
    · rw [aOpen_n (by omega) y, if_pos (by omega), if_neg (fun u => u.elim z y)]
theorem aMendN_one {b : Int → Int} {p : Int} (h0 : 0 ≤ p) : ∀ n : Nat, (∀ q : Int, 0 ≤ q → q < n → q ≠ p → aMendT b q = aP b q 2) → aMendN b n = if p < n then iup b (58 + 17 * p + 2) (aMendT b p) else b := by
  intro n
  induction n with
  | zero => intro _; rw [if_neg (by omega)]; rfl
  | succ n ih =>
    intro h
    unfold aMendN
    by_cases q : (n : Int) = p
    · rw [ih (fun q g1 g2 g3 => h q g1 (by omega) g3), if_neg (by omega), if_pos (by omega), q]
    · have e := h n (by omega) (by omega) q
      rw [e, ← aMendN_P (a := b) (q := (n : Int)) (w := 2) n (by decide) (by decide) (Or.inr (Int.le_refl _))]
      have e3 : iup (aMendN b n) (58 + 17 * (n : Int) + 2) (aP (aMendN b n) n 2) = aMendN b n := iup_id
      rw [e3, ih (fun q g1 g2 g3 => h q g1 (by omega) g3)]
      by_cases u : p < n
      · rw [if_pos u, if_pos (by omega)]
      · rw [if_neg u, if_neg (by omega)]
theorem aMend_right {T : Int} {b : Int → Int} {p : Int} (hw : zWf T b) (h0 : 0 ≤ p) (h1 : p < b 2) (hz : aP b p 2 = 0 → aOpen b p 1 = 0) (h : ∀ q : Int, 0 ≤ q → q < b 2 → q ≠ p → aMendT b q = aP b q 2) : aMend b = aRight b p := by
  unfold aMend
  rw [aMendN_one h0 _ (fun q g1 g2 g3 => h q g1 (by omega) g3), if_pos (by omega), aRight_g hw h0 h1 hz rfl (fun _ => rfl)]
theorem aSetP_right {T : Int} {a : Int → Int} {p w v : Int} (hw : zWf T a) (hg : zTg a) (h0 : 0 ≤ p) (h1 : p < a 2) (hm : zMayB a w v) : aSetP a p w v = aRight (iup a (58 + 17 * p + w) v) p := by
  have hm2 := hm
  unfold zMayB at hm
  have hsq := zWf.sq hw
  have f2 := WF_P (w := w) (v := v) hw h0 (zMayB_wr hm2)
  have e2 : iup a (58 + 17 * p + w) v 2 = a 2 := iup_n (by omega)
  have eO : ∀ q s : Int, aOpen (iup a (58 + 17 * p + w) v) q s = aOpen a q s := fun q s => aOpen_upP h0 (by omega) hsq.2
  unfold aSetP
  refine aMend_right f2 h0 (by rw [e2]; exact h1) (fun z => ?_) (fun q g1 g2 g3 => aMendT_tg ?_)
  · rw [eO]
    by_cases hw2 : w = 2
    · subst hw2
      have h9 := hmb2.mp hm2
      have e9 : aP (iup a (58 + 17 * p + 2) v) p 2 = v := iup_s
      omega
    · rw [aP_up (by omega)] at z
      rcases hg p h0 h1 with y | y
      · exact y.2
      · omega
  · rw [e2] at g2
    rw [aP_up (by omega), eO]
    rcases hg q g1 g2 with y | y
    · exact Or.inl y
    · have hm3 := hw.2.2.2.2.2.2.2.2.2.2.2.2.2.2.2.2.2.1 q g1 g2
      unfold zWfP at hm3
      refine Or.inr ⟨y.1, ?_⟩
      unfold aForb
      rw [aO_upP h0 (by omega) (by omega)]
      exact y.2
theorem dX7_setPlayer_0 : decode cX7_setPlayer 0 = .ok (.aload_n 0, 1) := by decide +kernel
theorem dX7_setPlayer_1 : decode cX7_setPlayer 1 = .ok (.aload_n 0, 1) := by decide +kernel
theorem dX7_setPlayer_2 : decode cX7_setPlayer 2 = .ok (.iload_n 1, 1) := by decide +kernel
theorem dX7_setPlayer_3 : decode cX7_setPlayer 3 = .ok (.invokevirtual 285, 3) := by decide +kernel
theorem dX7_setPlayer_6 : decode cX7_setPlayer 6 = .ok (.ifCond .ne 7, 3) := by decide +kernel
theorem dX7_setPlayer_9 : decode cX7_setPlayer 9 = .ok (.iconst 1, 1) := by decide +kernel
theorem dX7_setPlayer_10 : decode cX7_setPlayer 10 = .ok (.goto 17, 3) := by decide +kernel
theorem dX7_setPlayer_13 : decode cX7_setPlayer 13 = .ok (.aload_n 0, 1) := by decide +kernel
theorem dX7_setPlayer_14 : decode cX7_setPlayer 14 = .ok (.iload_n 2, 1) := by decide +kernel
theorem dX7_setPlayer_15 : decode cX7_setPlayer 15 = .ok (.iload_n 3, 1) := by decide +kernel
theorem dX7_setPlayer_16 : decode cX7_setPlayer 16 = .ok (.invokevirtual 343, 3) := by decide +kernel
theorem dX7_setPlayer_19 : decode cX7_setPlayer 19 = .ok (.ifCond .eq 7, 3) := by decide +kernel
theorem dX7_setPlayer_22 : decode cX7_setPlayer 22 = .ok (.iconst 0, 1) := by decide +kernel
theorem dX7_setPlayer_23 : decode cX7_setPlayer 23 = .ok (.goto 4, 3) := by decide +kernel
theorem dX7_setPlayer_26 : decode cX7_setPlayer 26 = .ok (.iconst 2, 1) := by decide +kernel
theorem dX7_setPlayer_27 : decode cX7_setPlayer 27 = .ok (.putfield 59, 3) := by decide +kernel
theorem dX7_setPlayer_30 : decode cX7_setPlayer 30 = .ok (.aload_n 0, 1) := by decide +kernel
theorem dX7_setPlayer_31 : decode cX7_setPlayer 31 = .ok (.getfield 59, 3) := by decide +kernel
theorem dX7_setPlayer_34 : decode cX7_setPlayer 34 = .ok (.ifCond .le 5, 3) := by decide +kernel
theorem dX7_setPlayer_37 : decode cX7_setPlayer 37 = .ok (.iconst 0, 1) := by decide +kernel
theorem dX7_setPlayer_38 : decode cX7_setPlayer 38 = .ok (.ireturn, 1) := by decide +kernel
theorem dX7_setPlayer_39 : decode cX7_setPlayer 39 = .ok (.aload_n 0, 1) := by decide +kernel
theorem dX7_setPlayer_40 : decode cX7_setPlayer 40 = .ok (.aload_n 0, 1) := by decide +kernel
theorem dX7_setPlayer_41 : decode cX7_setPlayer 41 = .ok (.getfield 7, 3) := by decide +kernel
theorem dX7_setPlayer_44 : decode cX7_setPlayer 44 = .ok (.invokevirtual 73, 3) := by decide +kernel
theorem dX7_setPlayer_47 : decode cX7_setPlayer 47 = .ok (.aload_n 0, 1) := by decide +kernel
theorem dX7_setPlayer_48 : decode cX7_setPlayer 48 = .ok (.iload_n 1, 1) := by decide +kernel
theorem dX7_setPlayer_49 : decode cX7_setPlayer 49 = .ok (.iload_n 2, 1) := by decide +kernel
theorem dX7_setPlayer_50 : decode cX7_setPlayer 50 = .ok (.invokevirtual 154, 3) := by decide +kernel
theorem dX7_setPlayer_53 : decode cX7_setPlayer 53 = .ok (.istore 4, 2) := by decide +kernel
theorem dX7_setPlayer_55 : decode cX7_setPlayer 55 = .ok (.aload_n 0, 1) := by decide +kernel
theorem dX7_setPlayer_56 : decode cX7_setPlayer 56 = .ok (.iload_n 1, 1) := by decide +kernel
theorem dX7_setPlayer_57 : decode cX7_setPlayer 57 = .ok (.iload_n 2, 1) := by decide +kernel
theorem dX7_setPlayer_58 : decode cX7_setPlayer 58 = .ok (.iload_n 3, 1) := by decide +kernel
theorem dX7_setPlayer_59 : decode cX7_setPlayer 59 = .ok (.invokevirtual 55, 3) := by decide +kernel
theorem dX7_setPlayer_62 : decode cX7_setPlayer 62 = .ok (.aload_n 0, 1) := by decide +kernel
theorem dX7_setPlayer_63 : decode cX7_setPlayer 63 = .ok (.iload_n 1, 1) := by decide +kernel
theorem dX7_setPlayer_64 : decode cX7_setPlayer 64 = .ok (.invokevirtual 206, 3) := by decide +kernel
theorem dX7_setPlayer_67 : decode cX7_setPlayer 67 = .ok (.iload 4, 2) := by decide +kernel
theorem dX7_setPlayer_69 : decode cX7_setPlayer 69 = .ok (.ireturn, 1) := by decide +kernel
theorem eX7_setPlayer {W : zWd} {a : Int → Int} {T n : Int} {K : Nat → (Int → Int)} {p w v : Int}  {Q : Option Value → zWd → Prop} {X : zX} (ha : W 117 = a) (hw : zWf T a) (hH : zKp W n K) (hg : zTg a) (hz : zR p) (hz2 : zR w) (hz3 : zR v) (hq : (0 ≤ p ∧ p < a 2) → zMayB a w v → ∀ W' : zWd, zOfM W W' → W' 116 7 = 0 → zKp W' (if n + 1 < 8 then n + 1 else 8) (zPush a K) → W' 117 = aSetP a p w v → Q (some (zI (aP a p w))) W') (hq1 : ¬ (0 ≤ p ∧ p < a 2) → ∀ W' : zWd, zOfM W W' → W' 116 7 = 1 → zKp W' n K → W' 117 = a → Q (some (zI 0)) W') (hq2 : (0 ≤ p ∧ p < a 2) → ¬ zMayB a w v → ∀ W' : zWd, zOfM W W' → W' 116 7 = 2 → zKp W' n K → W' 117 = a → Q (some (zI 0)) W')  : Ev MX7_setPlayer 5 0 W [.ref 116, zI p, zI w, zI v] Q X := by
  refine ev_of (ls := [.ref 116, zI p, zI w, zI v, .null]) (by decide) rfl (fun _ => rfl) (fun _ => Nat.le_of_ble_eq_true rfl) (Or.inl rfl) ?_
  obtain ⟨w0, w0', wW, w1, w2, w2', w3, w3', w4, w4', w5, w5', w6, w6', w7, w7', wS, wP, wT⟩ := id hw
  have wq := zWf.sq hw
  refine rr_aload_n (pc := 0) dX7_setPlayer_0 rfl ?_
  refine rr_aload_n (pc := 1) dX7_setPlayer_1 rfl ?_
  refine rr_iload_n (pc := 2) dX7_setPlayer_2 rfl ?_
  refine rr_inv0 (M' := MX7_isPlayer) (k := 116) (As := [_]) (pc := 3) dX7_setPlayer_3 lX7_285 kX7_isPlayer vX7_isPlayer zk_116 (by decide) rfl (by decide) (by decide) (Nat.le_of_ble_eq_true rfl) rfl (eX7_isPlayer ha hw hz ?_)
  refine rr_if_ne (pc := 6) (tgt := 13) dX7_setPlayer_6 (by decide) (by split <;> (unfold zR; omega)) (fun h6 => ?_) (fun h6 => ?_)
  · have hpl := z_i10n h6
    refine rr_aload_n (pc := 13) dX7_setPlayer_13 rfl ?_
    refine rr_iload_n (pc := 14) dX7_setPlayer_14 rfl ?_
    refine rr_iload_n (pc := 15) dX7_setPlayer_15 rfl ?_
    refine rr_inv0 (M' := MX7_mayBe) (k := 116) (As := [_, _]) (pc := 16) dX7_setPlayer_16 lX7_343 kX7_mayBe vX7_mayBe zk_116 (by decide) rfl (by decide) (by decide) (Nat.le_of_ble_eq_true rfl) rfl (eX7_mayBe ha hw hz2 hz3 (fun hmb => ?_) (fun hmb => ?_))
    · refine rr_if_eq (pc := 19) (tgt := 26) dX7_setPlayer_19 (by decide) (by unfold zR; omega) (fun h => ?_) (fun h => by omega)
      refine rr_iconst (n := 2) dX7_setPlayer_26 ?_
      refine rr_put (pc := 27) (ji := 7) dX7_setPlayer_27 fX7_59 fp_7_7 zk_116 zr_116_7 rfl ?_
      have o1 : zOfM W (zup W 116 7 2) := zOfM.rf.up (by omega)
      have t1 : zup W 116 7 2 116 7 = 2 := zup_s
      have a1 : zup W 116 7 2 117 = a := (zup_other 117 (by decide)).trans ha
      have k1 : zKp (zup W 116 7 2) n K := hH.u (by decide)
      generalize zup W 116 7 2 = W1 at o1 t1 a1 k1 ⊢
      refine rr_aload_n (pc := 30) dX7_setPlayer_30 rfl ?_
      refine rr_getI (pc := 31) (ji := 7) dX7_setPlayer_31 fX7_59 zk_116 zr_116_7 rfl ?_
      rw [t1]
      refine rr_if_le (pc := 34) (tgt := 39) dX7_setPlayer_34 (by decide) (by unfold zR; omega) (fun h34 => ?_) (fun h34 => ?_)
      · omega
      · refine rr_iconst (n := 0) dX7_setPlayer_37 ?_
        exact rr_reti (pc := 38) dX7_setPlayer_38 rfl rfl rfl rfl (hq2 hpl hmb W1 o1 t1 k1 a1)
    · refine rr_if_eq (pc := 19) (tgt := 26) dX7_setPlayer_19 (by decide) (by unfold zR; omega) (fun h => by omega) (fun h => ?_)
      refine rr_iconst (n := 0) dX7_setPlayer_22 ?_
      refine rr_goto (pc := 23) (tgt := 27) dX7_setPlayer_23 (by decide) ?_
      refine rr_put (pc := 27) (ji := 7) dX7_setPlayer_27 fX7_59 fp_7_7 zk_116 zr_116_7 rfl ?_
      have o1 : zOfM W (zup W 116 7 0) := zOfM.rf.up (by omega)
      have t1 : zup W 116 7 0 116 7 = 0 := zup_s
      have a1 : zup W 116 7 0 117 = a := (zup_other 117 (by decide)).trans ha
      have k1 : zKp (zup W 116 7 0) n K := hH.u (by decide)
      generalize zup W 116 7 0 = W1 at o1 t1 a1 k1 ⊢
      refine rr_aload_n (pc := 30) dX7_setPlayer_30 rfl ?_
      refine rr_getI (pc := 31) (ji := 7) dX7_setPlayer_31 fX7_59 zk_116 zr_116_7 rfl ?_
      rw [t1]
      refine rr_if_le (pc := 34) (tgt := 39) dX7_setPlayer_34 (by decide) (by unfold zR; omega) (fun h34 => ?_) (fun h34 => ?_)
      · refine rr_aload_n (pc := 39) dX7_setPlayer_39 rfl ?_
        refine rr_aload_n (pc := 40) dX7_setPlayer_40 rfl ?_
        refine rr_getR (pc := 41) dX7_setPlayer_41 fX7_7 zk_116 zr_116_0 ?_
        refine rr_inv0 (M' := MX7_keeps) (k := 116) (As := [_]) (pc := 44) dX7_setPlayer_44 lX7_73 kX7_keeps vX7_keeps zk_116 (by decide) rfl (by decide) (by decide) (Nat.le_of_ble_eq_true rfl) rfl (eX7_keeps zk_117 (by decide) (by decide) (by decide) k1 (fun W2 o2 k2 => ?_))
        rw [a1] at k2
        have oA := o1.tr o2.M
        have tA : W2 116 7 = 0 := (o2.2 7 (by decide)).trans t1
        have a2 : W2 117 = a := (o2.1 117 (by decide) (by decide)).trans a1
        refine rr_aload_n (pc := 47) dX7_setPlayer_47 rfl ?_
        refine rr_iload_n (pc := 48) dX7_setPlayer_48 rfl ?_
        refine rr_iload_n (pc := 49) dX7_setPlayer_49 rfl ?_
        have hmb9 := hmb
        unfold zMayB at hmb9
        have hp0 := hpl.1
        have hp1 := hpl.2
        refine rr_inv0 (M' := MX7_of) (k := 116) (As := [_, _]) (pc := 50) dX7_setPlayer_50 lX7_154 kX7_of vX7_of zk_116 (by decide) rfl (by decide) (by decide) (Nat.le_of_ble_eq_true rfl) rfl (eX7_of (by omega) (by omega) (by omega) (by omega) ?_)
        rw [a2]
        have f2 := WF_P (w := w) (v := v) hw hp0 (zMayB_wr hmb)
        refine rr_istore (pc := 53) dX7_setPlayer_53 (by decide) ?_
        refine rr_aload_n (pc := 55) dX7_setPlayer_55 rfl ?_
        refine rr_iload_n (pc := 56) dX7_setPlayer_56 rfl ?_
        refine rr_iload_n (pc := 57) dX7_setPlayer_57 rfl ?_
        refine rr_iload_n (pc := 58) dX7_setPlayer_58 rfl ?_
        refine rr_inv0 (M' := MX7_sets) (k := 116) (As := [_, _, _]) (pc := 59) dX7_setPlayer_59 lX7_55 kX7_sets vX7_sets zk_116 (by decide) rfl (by decide) (by decide) (Nat.le_of_ble_eq_true rfl) rfl (eX7_sets (by omega) (by omega) (by omega) (by omega) ?_)
        have e2 : zup W2 117 (58 + 17 * p + w) v 117 = iup a (58 + 17 * p + w) v := by rw [zup_at, a2]
        have o3 : zOfm W2 (zup W2 117 (58 + 17 * p + w) v) := zOfm.rf.up
        generalize zup W2 117 (58 + 17 * p + w) v = W3 at e2 o3 ⊢
        refine rr_aload_n (pc := 62) dX7_setPlayer_62 rfl ?_
        refine rr_iload_n (pc := 63) dX7_setPlayer_63 rfl ?_
        refine rr_inv0 (M' := MX7_putsRight) (k := 116) (As := [_]) (pc := 64) dX7_setPlayer_64 lX7_206 kX7_putsRight vX7_putsRight zk_116 (by decide) rfl (by decide) (by decide) (Nat.le_of_ble_eq_true rfl) rfl (eX7_putsRight e2 f2 hp0 (by rw [iup_n (by omega)]; exact hp1) (fun W4 o4 e4 => ?_))
        refine rr_iload (pc := 67) dX7_setPlayer_67 rfl ?_
        exact rr_reti (pc := 69) dX7_setPlayer_69 rfl rfl rfl rfl (hq hpl hmb W4 (oA.tr (o3.tr o4).M) (by rw [(o3.tr o4) 116 (by decide)]; exact tA) (k2.m (o3.tr o4)) (by rw [e4]; exact (aSetP_right hw hg hp0 hp1 hmb).symm))
      · omega
  · refine rr_iconst (n := 1) dX7_setPlayer_9 ?_
    refine rr_goto (pc := 10) (tgt := 27) dX7_setPlayer_10 (by decide) ?_
    have hnp := z_i10 h6
    refine rr_put (pc := 27) (ji := 7) dX7_setPlayer_27 fX7_59 fp_7_7 zk_116 zr_116_7 rfl ?_
    have o1 : zOfM W (zup W 116 7 1) := zOfM.rf.up (by omega)
    have t1 : zup W 116 7 1 116 7 = 1 := zup_s
    have a1 : zup W 116 7 1 117 = a := (zup_other 117 (by decide)).trans ha
    have k1 : zKp (zup W 116 7 1) n K := hH.u (by decide)
    generalize zup W 116 7 1 = W1 at o1 t1 a1 k1 ⊢
    refine rr_aload_n (pc := 30) dX7_setPlayer_30 rfl ?_
    refine rr_getI (pc := 31) (ji := 7) dX7_setPlayer_31 fX7_59 zk_116 zr_116_7 rfl ?_
    rw [t1]
    refine rr_if_le (pc := 34) (tgt := 39) dX7_setPlayer_34 (by decide) (by unfold zR; omega) (fun h34 => ?_) (fun h34 => ?_)
    · omega
    · refine rr_iconst (n := 0) dX7_setPlayer_37 ?_
      exact rr_reti (pc := 38) dX7_setPlayer_38 rfl rfl rfl rfl (hq1 hnp W1 o1 t1 k1 a1)
theorem dX7_mark_0 : decode cX7_mark 0 = .ok (.aload_n 0, 1) := by decide +kernel
theorem dX7_mark_1 : decode cX7_mark 1 = .ok (.aload_n 0, 1) := by decide +kernel
theorem dX7_mark_2 : decode cX7_mark 2 = .ok (.iload_n 1, 1) := by decide +kernel
theorem dX7_mark_3 : decode cX7_mark 3 = .ok (.invokevirtual 285, 3) := by decide +kernel
theorem dX7_mark_6 : decode cX7_mark 6 = .ok (.ifCond .eq 20, 3) := by decide +kernel
theorem dX7_mark_9 : decode cX7_mark 9 = .ok (.iload_n 2, 1) := by decide +kernel
theorem dX7_mark_10 : decode cX7_mark 10 = .ok (.iconst (-1), 1) := by decide +kernel
theorem dX7_mark_11 : decode cX7_mark 11 = .ok (.if_icmp .eq 11, 3) := by decide +kernel
theorem dX7_mark_14 : decode cX7_mark 14 = .ok (.aload_n 0, 1) := by decide +kernel
theorem dX7_mark_15 : decode cX7_mark 15 = .ok (.iload_n 2, 1) := by decide +kernel
theorem dX7_mark_16 : decode cX7_mark 16 = .ok (.invokevirtual 288, 3) := by decide +kernel
theorem dX7_mark_19 : decode cX7_mark 19 = .ok (.ifCond .eq 7, 3) := by decide +kernel
theorem dX7_mark_22 : decode cX7_mark 22 = .ok (.iconst 0, 1) := by decide +kernel
theorem dX7_mark_23 : decode cX7_mark 23 = .ok (.goto 4, 3) := by decide +kernel
theorem dX7_mark_26 : decode cX7_mark 26 = .ok (.iconst 1, 1) := by decide +kernel
theorem dX7_mark_27 : decode cX7_mark 27 = .ok (.putfield 59, 3) := by decide +kernel
theorem dX7_mark_30 : decode cX7_mark 30 = .ok (.aload_n 0, 1) := by decide +kernel
theorem dX7_mark_31 : decode cX7_mark 31 = .ok (.getfield 59, 3) := by decide +kernel
theorem dX7_mark_34 : decode cX7_mark 34 = .ok (.ifCond .le 5, 3) := by decide +kernel
theorem dX7_mark_37 : decode cX7_mark 37 = .ok (.iconst 0, 1) := by decide +kernel
theorem dX7_mark_38 : decode cX7_mark 38 = .ok (.ireturn, 1) := by decide +kernel
theorem dX7_mark_39 : decode cX7_mark 39 = .ok (.aload_n 0, 1) := by decide +kernel
theorem dX7_mark_40 : decode cX7_mark 40 = .ok (.aload_n 0, 1) := by decide +kernel
theorem dX7_mark_41 : decode cX7_mark 41 = .ok (.getfield 7, 3) := by decide +kernel
theorem dX7_mark_44 : decode cX7_mark 44 = .ok (.invokevirtual 73, 3) := by decide +kernel
theorem dX7_mark_47 : decode cX7_mark 47 = .ok (.aload_n 0, 1) := by decide +kernel
theorem dX7_mark_48 : decode cX7_mark 48 = .ok (.iload_n 1, 1) := by decide +kernel
theorem dX7_mark_49 : decode cX7_mark 49 = .ok (.iconst 5, 1) := by decide +kernel
theorem dX7_mark_50 : decode cX7_mark 50 = .ok (.invokevirtual 154, 3) := by decide +kernel
theorem dX7_mark_53 : decode cX7_mark 53 = .ok (.istore_n 3, 1) := by decide +kernel
theorem dX7_mark_54 : decode cX7_mark 54 = .ok (.aload_n 0, 1) := by decide +kernel
theorem dX7_mark_55 : decode cX7_mark 55 = .ok (.iload_n 1, 1) := by decide +kernel
theorem dX7_mark_56 : decode cX7_mark 56 = .ok (.iconst 5, 1) := by decide +kernel
theorem dX7_mark_57 : decode cX7_mark 57 = .ok (.iload_n 2, 1) := by decide +kernel
theorem dX7_mark_58 : decode cX7_mark 58 = .ok (.iconst (-1), 1) := by decide +kernel
theorem dX7_mark_59 : decode cX7_mark 59 = .ok (.if_icmp .ne 7, 3) := by decide +kernel
theorem dX7_mark_62 : decode cX7_mark 62 = .ok (.iconst 0, 1) := by decide +kernel
theorem dX7_mark_63 : decode cX7_mark 63 = .ok (.goto 4, 3) := by decide +kernel
theorem dX7_mark_66 : decode cX7_mark 66 = .ok (.iload_n 2, 1) := by decide +kernel
theorem dX7_mark_67 : decode cX7_mark 67 = .ok (.invokevirtual 55, 3) := by decide +kernel
theorem dX7_mark_70 : decode cX7_mark 70 = .ok (.iload_n 3, 1) := by decide +kernel
theorem dX7_mark_71 : decode cX7_mark 71 = .ok (.ifCond .ne 7, 3) := by decide +kernel
theorem dX7_mark_74 : decode cX7_mark 74 = .ok (.iconst (-1), 1) := by decide +kernel
theorem dX7_mark_75 : decode cX7_mark 75 = .ok (.goto 4, 3) := by decide +kernel
theorem dX7_mark_78 : decode cX7_mark 78 = .ok (.iload_n 3, 1) := by decide +kernel
theorem dX7_mark_79 : decode cX7_mark 79 = .ok (.ireturn, 1) := by decide +kernel
theorem eX7_mark {W : zWd} {a : Int → Int} {T n : Int} {K : Nat → (Int → Int)} {p s : Int}  {Q : Option Value → zWd → Prop} {X : zX} (ha : W 117 = a) (hw : zWf T a) (hH : zKp W n K) (hz : zR p) (hz2 : zR s) (hq : ((0 ≤ p ∧ p < a 2) ∧ (s = -1 ∨ (1 ≤ s ∧ s ≤ a 1))) → ∀ W' : zWd, zOfM W W' → W' 116 7 = 0 → zKp W' (if n + 1 < 8 then n + 1 else 8) (zPush a K) → W' 117 = iup a (58 + 17 * p + 5) (if s = -1 then 0 else s) → Q (some (zI (if aP a p 5 = 0 then -1 else aP a p 5))) W') (hq1 : ¬ ((0 ≤ p ∧ p < a 2) ∧ (s = -1 ∨ (1 ≤ s ∧ s ≤ a 1))) → ∀ W' : zWd, zOfM W W' → W' 116 7 = 1 → zKp W' n K → W' 117 = a → Q (some (zI 0)) W')  : Ev MX7_mark 2 0 W [.ref 116, zI p, zI s] Q X := by
  refine ev_of (ls := [.ref 116, zI p, zI s, .null]) (by decide) rfl (fun _ => rfl) (fun _ => Nat.le_of_ble_eq_true rfl) (Or.inl rfl) ?_
  obtain ⟨w0, w0', wW, w1, w2, w2', w3, w3', w4, w4', w5, w5', w6, w6', w7, w7', wS, wP, wT⟩ := id hw
  have wq := zWf.sq hw
  refine rr_aload_n (pc := 0) dX7_mark_0 rfl ?_
  refine rr_aload_n (pc := 1) dX7_mark_1 rfl ?_
  refine rr_iload_n (pc := 2) dX7_mark_2 rfl ?_
  refine rr_inv0 (M' := MX7_isPlayer) (k := 116) (As := [_]) (pc := 3) dX7_mark_3 lX7_285 kX7_isPlayer vX7_isPlayer zk_116 (by decide) rfl (by decide) (by decide) (Nat.le_of_ble_eq_true rfl) rfl (eX7_isPlayer ha hw hz ?_)
  refine rr_if_eq (pc := 6) (tgt := 26) dX7_mark_6 (by decide) (by split <;> (unfold zR; omega)) (fun h6 => ?_) (fun h6 => ?_)
  · refine rr_iconst (n := 1) dX7_mark_26 ?_
    have hnp := z_i10 h6
    refine rr_put (pc := 27) (ji := 7) dX7_mark_27 fX7_59 fp_7_7 zk_116 zr_116_7 rfl ?_
    have o1 : zOfM W (zup W 116 7 1) := zOfM.rf.up (by omega)
    have t1 : zup W 116 7 1 116 7 = 1 := zup_s
    have a1 : zup W 116 7 1 117 = a := (zup_other 117 (by decide)).trans ha
    have k1 : zKp (zup W 116 7 1) n K := hH.u (by decide)
    generalize zup W 116 7 1 = W1 at o1 t1 a1 k1 ⊢
    refine rr_aload_n (pc := 30) dX7_mark_30 rfl ?_
    refine rr_getI (pc := 31) (ji := 7) dX7_mark_31 fX7_59 zk_116 zr_116_7 rfl ?_
    rw [t1]
    refine rr_if_le (pc := 34) (tgt := 39) dX7_mark_34 (by decide) (by unfold zR; omega) (fun h34 => ?_) (fun h34 => ?_)
    · omega
    · refine rr_iconst (n := 0) dX7_mark_37 ?_
      exact rr_reti (pc := 38) dX7_mark_38 rfl rfl rfl rfl (hq1 (fun z => hnp z.1) W1 o1 t1 k1 a1)
  · have hpl := z_i10n h6
    refine rr_iload_n (pc := 9) dX7_mark_9 rfl ?_
    refine rr_iconst (n := (-1)) dX7_mark_10 ?_
    refine rr_icmp_eq (pc := 11) (tgt := 22) dX7_mark_11 (by decide) hz2 (by unfold zR; omega) (fun h11 => ?_) (fun h11 => ?_)
    · refine rr_iconst (n := 0) dX7_mark_22 ?_
      refine rr_goto (pc := 23) (tgt := 27) dX7_mark_23 (by decide) ?_
      have hc : ((0 ≤ p ∧ p < a 2) ∧ (s = -1 ∨ (1 ≤ s ∧ s ≤ a 1))) := ⟨hpl, Or.inl h11⟩
      refine rr_put (pc := 27) (ji := 7) dX7_mark_27 fX7_59 fp_7_7 zk_116 zr_116_7 rfl ?_
      have o1 : zOfM W (zup W 116 7 0) := zOfM.rf.up (by omega)
      have t1 : zup W 116 7 0 116 7 = 0 := zup_s
      have a1 : zup W 116 7 0 117 = a := (zup_other 117 (by decide)).trans ha
      have k1 : zKp (zup W 116 7 0) n K := hH.u (by decide)
      generalize zup W 116 7 0 = W1 at o1 t1 a1 k1 ⊢
      refine rr_aload_n (pc := 30) dX7_mark_30 rfl ?_
      refine rr_getI (pc := 31) (ji := 7) dX7_mark_31 fX7_59 zk_116 zr_116_7 rfl ?_
      rw [t1]
      refine rr_if_le (pc := 34) (tgt := 39) dX7_mark_34 (by decide) (by unfold zR; omega) (fun h34 => ?_) (fun h34 => ?_)
      · refine rr_aload_n (pc := 39) dX7_mark_39 rfl ?_
        refine rr_aload_n (pc := 40) dX7_mark_40 rfl ?_
        refine rr_getR (pc := 41) dX7_mark_41 fX7_7 zk_116 zr_116_0 ?_
        refine rr_inv0 (M' := MX7_keeps) (k := 116) (As := [_]) (pc := 44) dX7_mark_44 lX7_73 kX7_keeps vX7_keeps zk_116 (by decide) rfl (by decide) (by decide) (Nat.le_of_ble_eq_true rfl) rfl (eX7_keeps zk_117 (by decide) (by decide) (by decide) k1 (fun W2 o2 k2 => ?_))
        rw [a1] at k2
        have oA := o1.tr o2.M
        have tA : W2 116 7 = 0 := (o2.2 7 (by decide)).trans t1
        have a2 : W2 117 = a := (o2.1 117 (by decide) (by decide)).trans a1
        refine rr_aload_n (pc := 47) dX7_mark_47 rfl ?_
        refine rr_iload_n (pc := 48) dX7_mark_48 rfl ?_
        refine rr_iconst (n := 5) dX7_mark_49 ?_
        have hp0 := hpl.1
        have hp1 := hpl.2
        have hm2 := wP p hp0 hp1
        unfold zWfP at hm2
        refine rr_inv0 (M' := MX7_of) (k := 116) (As := [_, _]) (pc := 50) dX7_mark_50 lX7_154 kX7_of vX7_of zk_116 (by decide) rfl (by decide) (by decide) (Nat.le_of_ble_eq_true rfl) rfl (eX7_of (by omega) (by omega) (by omega) (by omega) ?_)
        rw [a2]
        refine rr_istore_n (pc := 53) dX7_mark_53 (by decide) ?_
        refine rr_aload_n (pc := 54) dX7_mark_54 rfl ?_
        refine rr_iload_n (pc := 55) dX7_mark_55 rfl ?_
        refine rr_iconst (n := 5) dX7_mark_56 ?_
        refine rr_iload_n (pc := 57) dX7_mark_57 rfl ?_
        refine rr_iconst (n := (-1)) dX7_mark_58 ?_
        refine rr_icmp_ne (pc := 59) (tgt := 66) dX7_mark_59 (by decide) hz2 (by unfold zR; omega) (fun h59 => ?_) (fun h59 => ?_)
        · refine rr_iload_n (pc := 66) dX7_mark_66 rfl ?_
          refine rr_inv0 (M' := MX7_sets) (k := 116) (As := [_, _, _]) (pc := 67) dX7_mark_67 lX7_55 kX7_sets vX7_sets zk_116 (by decide) rfl (by decide) (by decide) (Nat.le_of_ble_eq_true rfl) rfl (eX7_sets (by omega) (by omega) (by omega) (by omega) ?_)
          have e3 : zup W2 117 (58 + 17 * p + 5) s 117 = iup a (58 + 17 * p + 5) (if s = -1 then 0 else s) := by rw [zup_at, a2, if_neg h59]
          have o3 : zOfm W2 (zup W2 117 (58 + 17 * p + 5) s) := zOfm.rf.up
          generalize zup W2 117 (58 + 17 * p + 5) s = W3 at e3 o3 ⊢
          refine rr_iload_n (pc := 70) dX7_mark_70 rfl ?_
          refine rr_if_ne (pc := 71) (tgt := 78) dX7_mark_71 (by decide) (by unfold zR; omega) (fun h71 => ?_) (fun h71 => ?_)
          · refine rr_iload_n (pc := 78) dX7_mark_78 rfl ?_
            exact rr_reti (pc := 79) dX7_mark_79 rfl rfl (if_neg h71).symm rfl (hq hc W3 (oA.tr o3.M) (by rw [o3 116 (by decide)]; exact tA) (k2.m o3) e3)
          · refine rr_iconst (n := (-1)) dX7_mark_74 ?_
            refine rr_goto (pc := 75) (tgt := 79) dX7_mark_75 (by decide) ?_
            exact rr_reti (pc := 79) dX7_mark_79 rfl rfl (if_pos h71).symm rfl (hq hc W3 (oA.tr o3.M) (by rw [o3 116 (by decide)]; exact tA) (k2.m o3) e3)
        · refine rr_iconst (n := 0) dX7_mark_62 ?_
          refine rr_goto (pc := 63) (tgt := 67) dX7_mark_63 (by decide) ?_
          refine rr_inv0 (M' := MX7_sets) (k := 116) (As := [_, _, _]) (pc := 67) dX7_mark_67 lX7_55 kX7_sets vX7_sets zk_116 (by decide) rfl (by decide) (by decide) (Nat.le_of_ble_eq_true rfl) rfl (eX7_sets (by omega) (by omega) (by omega) (by omega) ?_)
          have e3 : zup W2 117 (58 + 17 * p + 5) 0 117 = iup a (58 + 17 * p + 5) (if s = -1 then 0 else s) := by rw [zup_at, a2, if_pos h59]
          have o3 : zOfm W2 (zup W2 117 (58 + 17 * p + 5) 0) := zOfm.rf.up
          generalize zup W2 117 (58 + 17 * p + 5) 0 = W3 at e3 o3 ⊢
          refine rr_iload_n (pc := 70) dX7_mark_70 rfl ?_
          refine rr_if_ne (pc := 71) (tgt := 78) dX7_mark_71 (by decide) (by unfold zR; omega) (fun h71 => ?_) (fun h71 => ?_)
          · refine rr_iload_n (pc := 78) dX7_mark_78 rfl ?_
            exact rr_reti (pc := 79) dX7_mark_79 rfl rfl (if_neg h71).symm rfl (hq hc W3 (oA.tr o3.M) (by rw [o3 116 (by decide)]; exact tA) (k2.m o3) e3)
          · refine rr_iconst (n := (-1)) dX7_mark_74 ?_
            refine rr_goto (pc := 75) (tgt := 79) dX7_mark_75 (by decide) ?_
            exact rr_reti (pc := 79) dX7_mark_79 rfl rfl (if_pos h71).symm rfl (hq hc W3 (oA.tr o3.M) (by rw [o3 116 (by decide)]; exact tA) (k2.m o3) e3)
      · omega
    · refine rr_aload_n (pc := 14) dX7_mark_14 rfl ?_
      refine rr_iload_n (pc := 15) dX7_mark_15 rfl ?_
      refine rr_inv0 (M' := MX7_isSquare) (k := 116) (As := [_]) (pc := 16) dX7_mark_16 lX7_288 kX7_isSquare vX7_isSquare zk_116 (by decide) rfl (by decide) (by decide) (Nat.le_of_ble_eq_true rfl) rfl (eX7_isSquare ha hw hz2 ?_)
      refine rr_if_eq (pc := 19) (tgt := 26) dX7_mark_19 (by decide) (by split <;> (unfold zR; omega)) (fun h19 => ?_) (fun h19 => ?_)
      · refine rr_iconst (n := 1) dX7_mark_26 ?_
        have hc : ¬ ((0 ≤ p ∧ p < a 2) ∧ (s = -1 ∨ (1 ≤ s ∧ s ≤ a 1))) := fun z => z.2.elim h11 (z_i10 h19)
        refine rr_put (pc := 27) (ji := 7) dX7_mark_27 fX7_59 fp_7_7 zk_116 zr_116_7 rfl ?_
        have o1 : zOfM W (zup W 116 7 1) := zOfM.rf.up (by omega)
        have t1 : zup W 116 7 1 116 7 = 1 := zup_s
        have a1 : zup W 116 7 1 117 = a := (zup_other 117 (by decide)).trans ha
        have k1 : zKp (zup W 116 7 1) n K := hH.u (by decide)
        generalize zup W 116 7 1 = W1 at o1 t1 a1 k1 ⊢
        refine rr_aload_n (pc := 30) dX7_mark_30 rfl ?_
        refine rr_getI (pc := 31) (ji := 7) dX7_mark_31 fX7_59 zk_116 zr_116_7 rfl ?_
        rw [t1]
        refine rr_if_le (pc := 34) (tgt := 39) dX7_mark_34 (by decide) (by unfold zR; omega) (fun h34 => ?_) (fun h34 => ?_)
        · omega
        · refine rr_iconst (n := 0) dX7_mark_37 ?_
          exact rr_reti (pc := 38) dX7_mark_38 rfl rfl rfl rfl (hq1 hc W1 o1 t1 k1 a1)
      · refine rr_iconst (n := 0) dX7_mark_22 ?_
        refine rr_goto (pc := 23) (tgt := 27) dX7_mark_23 (by decide) ?_
        have hc : ((0 ≤ p ∧ p < a 2) ∧ (s = -1 ∨ (1 ≤ s ∧ s ≤ a 1))) := ⟨hpl, Or.inr (z_i10n h19)⟩
        refine rr_put (pc := 27) (ji := 7) dX7_mark_27 fX7_59 fp_7_7 zk_116 zr_116_7 rfl ?_
        have o1 : zOfM W (zup W 116 7 0) := zOfM.rf.up (by omega)
        have t1 : zup W 116 7 0 116 7 = 0 := zup_s
        have a1 : zup W 116 7 0 117 = a := (zup_other 117 (by decide)).trans ha
        have k1 : zKp (zup W 116 7 0) n K := hH.u (by decide)
        generalize zup W 116 7 0 = W1 at o1 t1 a1 k1 ⊢
        refine rr_aload_n (pc := 30) dX7_mark_30 rfl ?_
        refine rr_getI (pc := 31) (ji := 7) dX7_mark_31 fX7_59 zk_116 zr_116_7 rfl ?_
        rw [t1]
        refine rr_if_le (pc := 34) (tgt := 39) dX7_mark_34 (by decide) (by unfold zR; omega) (fun h34 => ?_) (fun h34 => ?_)
        · refine rr_aload_n (pc := 39) dX7_mark_39 rfl ?_
          refine rr_aload_n (pc := 40) dX7_mark_40 rfl ?_
          refine rr_getR (pc := 41) dX7_mark_41 fX7_7 zk_116 zr_116_0 ?_
          refine rr_inv0 (M' := MX7_keeps) (k := 116) (As := [_]) (pc := 44) dX7_mark_44 lX7_73 kX7_keeps vX7_keeps zk_116 (by decide) rfl (by decide) (by decide) (Nat.le_of_ble_eq_true rfl) rfl (eX7_keeps zk_117 (by decide) (by decide) (by decide) k1 (fun W2 o2 k2 => ?_))
          rw [a1] at k2
          have oA := o1.tr o2.M
          have tA : W2 116 7 = 0 := (o2.2 7 (by decide)).trans t1
          have a2 : W2 117 = a := (o2.1 117 (by decide) (by decide)).trans a1
          refine rr_aload_n (pc := 47) dX7_mark_47 rfl ?_
          refine rr_iload_n (pc := 48) dX7_mark_48 rfl ?_
          refine rr_iconst (n := 5) dX7_mark_49 ?_
          have hp0 := hpl.1
          have hp1 := hpl.2
          have hm2 := wP p hp0 hp1
          unfold zWfP at hm2
          refine rr_inv0 (M' := MX7_of) (k := 116) (As := [_, _]) (pc := 50) dX7_mark_50 lX7_154 kX7_of vX7_of zk_116 (by decide) rfl (by decide) (by decide) (Nat.le_of_ble_eq_true rfl) rfl (eX7_of (by omega) (by omega) (by omega) (by omega) ?_)
          rw [a2]
          refine rr_istore_n (pc := 53) dX7_mark_53 (by decide) ?_
          refine rr_aload_n (pc := 54) dX7_mark_54 rfl ?_
          refine rr_iload_n (pc := 55) dX7_mark_55 rfl ?_
          refine rr_iconst (n := 5) dX7_mark_56 ?_
          refine rr_iload_n (pc := 57) dX7_mark_57 rfl ?_
          refine rr_iconst (n := (-1)) dX7_mark_58 ?_
          refine rr_icmp_ne (pc := 59) (tgt := 66) dX7_mark_59 (by decide) hz2 (by unfold zR; omega) (fun h59 => ?_) (fun h59 => ?_)
          · refine rr_iload_n (pc := 66) dX7_mark_66 rfl ?_
            refine rr_inv0 (M' := MX7_sets) (k := 116) (As := [_, _, _]) (pc := 67) dX7_mark_67 lX7_55 kX7_sets vX7_sets zk_116 (by decide) rfl (by decide) (by decide) (Nat.le_of_ble_eq_true rfl) rfl (eX7_sets (by omega) (by omega) (by omega) (by omega) ?_)
            have e3 : zup W2 117 (58 + 17 * p + 5) s 117 = iup a (58 + 17 * p + 5) (if s = -1 then 0 else s) := by rw [zup_at, a2, if_neg h59]
            have o3 : zOfm W2 (zup W2 117 (58 + 17 * p + 5) s) := zOfm.rf.up
            generalize zup W2 117 (58 + 17 * p + 5) s = W3 at e3 o3 ⊢
            refine rr_iload_n (pc := 70) dX7_mark_70 rfl ?_
            refine rr_if_ne (pc := 71) (tgt := 78) dX7_mark_71 (by decide) (by unfold zR; omega) (fun h71 => ?_) (fun h71 => ?_)
            · refine rr_iload_n (pc := 78) dX7_mark_78 rfl ?_
              exact rr_reti (pc := 79) dX7_mark_79 rfl rfl (if_neg h71).symm rfl (hq hc W3 (oA.tr o3.M) (by rw [o3 116 (by decide)]; exact tA) (k2.m o3) e3)
            · refine rr_iconst (n := (-1)) dX7_mark_74 ?_
              refine rr_goto (pc := 75) (tgt := 79) dX7_mark_75 (by decide) ?_
              exact rr_reti (pc := 79) dX7_mark_79 rfl rfl (if_pos h71).symm rfl (hq hc W3 (oA.tr o3.M) (by rw [o3 116 (by decide)]; exact tA) (k2.m o3) e3)
          · refine rr_iconst (n := 0) dX7_mark_62 ?_
            refine rr_goto (pc := 63) (tgt := 67) dX7_mark_63 (by decide) ?_
            refine rr_inv0 (M' := MX7_sets) (k := 116) (As := [_, _, _]) (pc := 67) dX7_mark_67 lX7_55 kX7_sets vX7_sets zk_116 (by decide) rfl (by decide) (by decide) (Nat.le_of_ble_eq_true rfl) rfl (eX7_sets (by omega) (by omega) (by omega) (by omega) ?_)
            have e3 : zup W2 117 (58 + 17 * p + 5) 0 117 = iup a (58 + 17 * p + 5) (if s = -1 then 0 else s) := by rw [zup_at, a2, if_pos h59]
            have o3 : zOfm W2 (zup W2 117 (58 + 17 * p + 5) 0) := zOfm.rf.up
            generalize zup W2 117 (58 + 17 * p + 5) 0 = W3 at e3 o3 ⊢
            refine rr_iload_n (pc := 70) dX7_mark_70 rfl ?_
            refine rr_if_ne (pc := 71) (tgt := 78) dX7_mark_71 (by decide) (by unfold zR; omega) (fun h71 => ?_) (fun h71 => ?_)
            · refine rr_iload_n (pc := 78) dX7_mark_78 rfl ?_
              exact rr_reti (pc := 79) dX7_mark_79 rfl rfl (if_neg h71).symm rfl (hq hc W3 (oA.tr o3.M) (by rw [o3 116 (by decide)]; exact tA) (k2.m o3) e3)
            · refine rr_iconst (n := (-1)) dX7_mark_74 ?_
              refine rr_goto (pc := 75) (tgt := 79) dX7_mark_75 (by decide) ?_
              exact rr_reti (pc := 79) dX7_mark_79 rfl rfl (if_pos h71).symm rfl (hq hc W3 (oA.tr o3.M) (by rw [o3 116 (by decide)]; exact tA) (k2.m o3) e3)
        · omega
