theorem zWS.cg {W W' : zWd} {w : Nat} {F : Nat → Int} {L must rc bal : Nat} (h : zWS W w F L must rc bal) (e0 : ∀ j : Int, 4 ≤ j → j ≤ 7 → W' w j = W w j) (e2 : W' (w + 2) = W (w + 2)) : zWS W' w F L must rc bal := by
  unfold zWS at *; rw [e0 4 (by omega) (by omega), e0 5 (by omega) (by omega), e0 6 (by omega) (by omega), e0 7 (by omega) (by omega), e2]; exact h
def zWF (a : Int → Int) (q tg bk : Int) : Nat → Int := zFt a q (if bk = 0 then tg else 0) bk
def zWm (a : Int → Int) (tg bk : Int) : Nat := if bk = 0 then 0 else (a 0 - 1 - (aR a tg : Nat)).toNat
def aCost (a : Int → Int) (q tg : Int) (rc : Nat) (bk : Int) : Int := if tg < 1 ∨ a 1 < tg then -1 else zWc (zWF a q tg bk) (a 0 + 1).toNat (zWm a tg bk) rc (aP a q 1).toNat
def aWay (a : Int → Int) (q tg : Int) (rc : Nat) (bk : Int) : List Nat := if tg < 1 ∨ a 1 < tg then [] else zWl (zWF a q tg bk) (a 0 + 1).toNat (zWm a tg bk) rc (aP a q 1).toNat
/-- the way w is laid -/
def zLaid (W : zWd) (w : Nat) (a : Int → Int) (q tg : Int) (rc : Nat) (bk : Int) : Prop := W w 1 = aCost a q tg rc bk ∧ W w 2 = (aWay a q tg rc bk).length ∧ ∀ i : Nat, i < (aWay a q tg rc bk).length → W (w + 1) i = zRa bk (a 0 + 1) ((aWay a q tg rc bk).getD i 0 : Nat)
def zOffw (w : Nat) (W W' : zWd) : Prop := ∀ k : Nat, (k < w ∨ w + 5 ≤ k) → W' k = W k
theorem aCost_in {a : Int → Int} {q tg bk : Int} {rc : Nat} (h1 : 1 ≤ tg) (h2 : tg ≤ a 1) : aCost a q tg rc bk = zWc (zWF a q tg bk) (a 0 + 1).toNat (zWm a tg bk) rc (aP a q 1).toNat := if_neg (by omega)
theorem aWay_in {a : Int → Int} {q tg bk : Int} {rc : Nat} (h1 : 1 ≤ tg) (h2 : tg ≤ a 1) : aWay a q tg rc bk = zWl (zWF a q tg bk) (a 0 + 1).toNat (zWm a tg bk) rc (aP a q 1).toNat := if_neg (by omega)
theorem zWc_rng {F : Nat → Int} {L must rc bal : Nat} : -1 ≤ zWc F L must rc bal ∧ zWc F L must rc bal < 1000000 := by
  have := zV_rng (F := F) (L := L) (must := must) (rc := rc) (bal := bal) 0 0
  unfold zWc; split <;> omega
theorem aCost_rng {a : Int → Int} {q tg bk : Int} {rc : Nat} : -1 ≤ aCost a q tg rc bk ∧ aCost a q tg rc bk < 1000000 := by
  unfold aCost; split
  · omega
  · exact zWc_rng
theorem dX4_seek_0 : decode cX4_seek 0 = .ok (.aload_n 0, 1) := by decide +kernel
theorem dX4_seek_1 : decode cX4_seek 1 = .ok (.iconst (-1), 1) := by decide +kernel
theorem dX4_seek_2 : decode cX4_seek 2 = .ok (.putfield 28, 3) := by decide +kernel
theorem dX4_seek_5 : decode cX4_seek 5 = .ok (.aload_n 0, 1) := by decide +kernel
theorem dX4_seek_6 : decode cX4_seek 6 = .ok (.iconst 0, 1) := by decide +kernel
theorem dX4_seek_7 : decode cX4_seek 7 = .ok (.putfield 32, 3) := by decide +kernel
theorem dX4_seek_10 : decode cX4_seek 10 = .ok (.iload_n 3, 1) := by decide +kernel
theorem dX4_seek_11 : decode cX4_seek 11 = .ok (.iconst 1, 1) := by decide +kernel
theorem dX4_seek_12 : decode cX4_seek 12 = .ok (.if_icmp .lt 11, 3) := by decide +kernel
theorem dX4_seek_15 : decode cX4_seek 15 = .ok (.iload_n 3, 1) := by decide +kernel
theorem dX4_seek_16 : decode cX4_seek 16 = .ok (.aload_n 1, 1) := by decide +kernel
theorem dX4_seek_17 : decode cX4_seek 17 = .ok (.getfield 35, 3) := by decide +kernel
theorem dX4_seek_20 : decode cX4_seek 20 = .ok (.if_icmp .le 5, 3) := by decide +kernel
theorem dX4_seek_23 : decode cX4_seek 23 = .ok (.iconst 0, 1) := by decide +kernel
theorem dX4_seek_24 : decode cX4_seek 24 = .ok (.ireturn, 1) := by decide +kernel
theorem dX4_seek_25 : decode cX4_seek 25 = .ok (.aload_n 0, 1) := by decide +kernel
theorem dX4_seek_26 : decode cX4_seek 26 = .ok (.iload 4, 2) := by decide +kernel
theorem dX4_seek_28 : decode cX4_seek 28 = .ok (.putfield 40, 3) := by decide +kernel
theorem dX4_seek_31 : decode cX4_seek 31 = .ok (.aload_n 0, 1) := by decide +kernel
theorem dX4_seek_32 : decode cX4_seek 32 = .ok (.aload_n 1, 1) := by decide +kernel
theorem dX4_seek_33 : decode cX4_seek 33 = .ok (.iload_n 2, 1) := by decide +kernel
theorem dX4_seek_34 : decode cX4_seek 34 = .ok (.iconst 1, 1) := by decide +kernel
theorem dX4_seek_35 : decode cX4_seek 35 = .ok (.invokevirtual 43, 3) := by decide +kernel
theorem dX4_seek_38 : decode cX4_seek 38 = .ok (.putfield 47, 3) := by decide +kernel
theorem dX4_seek_41 : decode cX4_seek 41 = .ok (.aload_n 0, 1) := by decide +kernel
theorem dX4_seek_42 : decode cX4_seek 42 = .ok (.aload_n 1, 1) := by decide +kernel
theorem dX4_seek_43 : decode cX4_seek 43 = .ok (.getfield 50, 3) := by decide +kernel
theorem dX4_seek_46 : decode cX4_seek 46 = .ok (.iconst 1, 1) := by decide +kernel
theorem dX4_seek_47 : decode cX4_seek 47 = .ok (.iadd, 1) := by decide +kernel
theorem dX4_seek_48 : decode cX4_seek 48 = .ok (.putfield 52, 3) := by decide +kernel
theorem dX4_seek_51 : decode cX4_seek 51 = .ok (.aload_n 0, 1) := by decide +kernel
theorem dX4_seek_52 : decode cX4_seek 52 = .ok (.aload_n 0, 1) := by decide +kernel
theorem dX4_seek_53 : decode cX4_seek 53 = .ok (.getfield 24, 3) := by decide +kernel
theorem dX4_seek_56 : decode cX4_seek 56 = .ok (.ifCond .eq 19, 3) := by decide +kernel
theorem dX4_seek_59 : decode cX4_seek 59 = .ok (.aload_n 1, 1) := by decide +kernel
theorem dX4_seek_60 : decode cX4_seek 60 = .ok (.getfield 50, 3) := by decide +kernel
theorem dX4_seek_63 : decode cX4_seek 63 = .ok (.iconst 1, 1) := by decide +kernel
theorem dX4_seek_64 : decode cX4_seek 64 = .ok (.isub, 1) := by decide +kernel
theorem dX4_seek_65 : decode cX4_seek 65 = .ok (.aload_n 1, 1) := by decide +kernel
theorem dX4_seek_66 : decode cX4_seek 66 = .ok (.getfield 55, 3) := by decide +kernel
theorem dX4_seek_69 : decode cX4_seek 69 = .ok (.iload_n 3, 1) := by decide +kernel
theorem dX4_seek_70 : decode cX4_seek 70 = .ok (.iaload, 1) := by decide +kernel
theorem dX4_seek_71 : decode cX4_seek 71 = .ok (.isub, 1) := by decide +kernel
theorem dX4_seek_72 : decode cX4_seek 72 = .ok (.goto 4, 3) := by decide +kernel
theorem dX4_seek_75 : decode cX4_seek 75 = .ok (.iconst 0, 1) := by decide +kernel
theorem dX4_seek_76 : decode cX4_seek 76 = .ok (.putfield 58, 3) := by decide +kernel
theorem dX4_seek_79 : decode cX4_seek 79 = .ok (.aload_n 0, 1) := by decide +kernel
theorem dX4_seek_80 : decode cX4_seek 80 = .ok (.aload_n 1, 1) := by decide +kernel
theorem dX4_seek_81 : decode cX4_seek 81 = .ok (.iload_n 2, 1) := by decide +kernel
theorem dX4_seek_82 : decode cX4_seek 82 = .ok (.iload_n 3, 1) := by decide +kernel
theorem dX4_seek_83 : decode cX4_seek 83 = .ok (.invokevirtual 61, 3) := by decide +kernel
theorem dX4_seek_86 : decode cX4_seek 86 = .ok (.aload_n 0, 1) := by decide +kernel
theorem dX4_seek_87 : decode cX4_seek 87 = .ok (.invokevirtual 65, 3) := by decide +kernel
theorem dX4_seek_90 : decode cX4_seek 90 = .ok (.aload_n 0, 1) := by decide +kernel
theorem dX4_seek_91 : decode cX4_seek 91 = .ok (.getfield 18, 3) := by decide +kernel
theorem dX4_seek_94 : decode cX4_seek 94 = .ok (.iconst 0, 1) := by decide +kernel
theorem dX4_seek_95 : decode cX4_seek 95 = .ok (.iaload, 1) := by decide +kernel
theorem dX4_seek_96 : decode cX4_seek 96 = .ok (.ldc 68, 2) := by decide +kernel
theorem dX4_seek_98 : decode cX4_seek 98 = .ok (.if_icmp .lt 5, 3) := by decide +kernel
theorem dX4_seek_101 : decode cX4_seek 101 = .ok (.iconst 0, 1) := by decide +kernel
theorem dX4_seek_102 : decode cX4_seek 102 = .ok (.ireturn, 1) := by decide +kernel
theorem dX4_seek_103 : decode cX4_seek 103 = .ok (.aload_n 0, 1) := by decide +kernel
theorem dX4_seek_104 : decode cX4_seek 104 = .ok (.aload_n 0, 1) := by decide +kernel
theorem dX4_seek_105 : decode cX4_seek 105 = .ok (.getfield 18, 3) := by decide +kernel
theorem dX4_seek_108 : decode cX4_seek 108 = .ok (.iconst 0, 1) := by decide +kernel
theorem dX4_seek_109 : decode cX4_seek 109 = .ok (.iaload, 1) := by decide +kernel
theorem dX4_seek_110 : decode cX4_seek 110 = .ok (.putfield 28, 3) := by decide +kernel
theorem dX4_seek_113 : decode cX4_seek 113 = .ok (.aload_n 0, 1) := by decide +kernel
theorem dX4_seek_114 : decode cX4_seek 114 = .ok (.invokevirtual 69, 3) := by decide +kernel
theorem dX4_seek_117 : decode cX4_seek 117 = .ok (.iconst 1, 1) := by decide +kernel
theorem dX4_seek_118 : decode cX4_seek 118 = .ok (.ireturn, 1) := by decide +kernel
set_option maxHeartbeats 1000000 in
theorem eX4_seek {w c : Nat} {W : zWd} {a : Int → Int} {T q tg : Int} {rc : Nat} {Q : Option Value → zWd → Prop} {X : zX} (hw : zWy w) (hc : zCt c) (hR : zCR W c a) (hwf : zWf T a) (hbz : zR (W w 0)) (hq0 : 0 ≤ q) (hq1 : q < a 2) (htz : zR tg) (hr1 : 1 ≤ rc) (hr4 : rc ≤ 4) (hq : ∀ W' : zWd, zOffw w W W' → W' w 0 = W w 0 → zLaid W' w a q tg rc (W w 0) → Q (some (zI (if aCost a q tg rc (W w 0) = -1 then 0 else 1))) W') : Ev MX4_seek 3 0 W [.ref w, .ref c, zI q, zI tg, zI (rc : Int)] Q X := by
  refine ev_of (ls := [.ref w, .ref c, zI q, zI tg, zI (rc : Int)]) (by decide) rfl (fun _ => rfl) (fun _ => Nat.le_of_ble_eq_true rfl) (Or.inl rfl) ?_
  unfold zR at htz
  obtain ⟨r0, r1, r2, r3, r4, r5, r6, r7, rF, rS, rP, rB⟩ := id hR
  obtain ⟨w0, w0', wW, w1, w2, w2', w3, w3', w4, w4', w5, w5', w6, w6', w7, w7', wS, wP, wT⟩ := id hwf
  have wq := zWf.sq hwf
  have hcw := hc.lt
  have hcd : c + 8 ≤ w := by rcases hw with rfl | rfl <;> omega
  have hm2 := wP q hq0 hq1
  unfold zWfP at hm2
  have hrr : 1 ≤ tg → tg ≤ a 1 → ((aR a tg : Nat) : Int) < a 0 := fun g1 g2 => (aR_spec hwf g1 g2).1
  have hzm : tg < 1 ∨ a 1 < tg ∨ ((aR a tg : Nat) : Int) < a 0 := by
    by_cases z1 : tg < 1
    · exact Or.inl z1
    · by_cases z2 : a 1 < tg
      · exact Or.inr (Or.inl z2)
      · exact Or.inr (Or.inr (hrr (by omega) (by omega)))
  by_cases hin : 1 ≤ tg ∧ tg ≤ a 1
  · have hrr9 := hrr hin.1 hin.2
    have main : ∀ mu : Int, mu = (zWm a tg (W w 0) : Nat) → RR MX4_seek 3 0 (zup (zup (zup (zup (zup W w 1 (-1)) w 2 0) w 6 (rc : Int)) w 7 (aP a q 1)) w 4 (a 0 + 1)) 76 [.ref w, .ref c, zI q, zI tg, zI (rc : Int)] [zI mu, .ref w] (zEnd MX4_seek Q X) X := by
      intro mu hmu
      refine rr_put (pc := 76) (ji := 5) dX4_seek_76 fX4_58 fp_4_5 hw.k hw.i5 rfl ?_
      have o1 : ∀ k : Nat, k ≠ w → zup (zup (zup (zup (zup (zup W w 1 (-1)) w 2 0) w 6 (rc : Int)) w 7 (aP a q 1)) w 4 (a 0 + 1)) w 5 mu k = W k := fun k hk => by rw [zup_other k hk, zup_other k hk, zup_other k hk, zup_other k hk, zup_other k hk, zup_other k hk]
      have v0 : zup (zup (zup (zup (zup (zup W w 1 (-1)) w 2 0) w 6 (rc : Int)) w 7 (aP a q 1)) w 4 (a 0 + 1)) w 5 mu w 0 = W w 0 := by simp [zup]
      have v1 : zup (zup (zup (zup (zup (zup W w 1 (-1)) w 2 0) w 6 (rc : Int)) w 7 (aP a q 1)) w 4 (a 0 + 1)) w 5 mu w 1 = -1 := by simp [zup]
      have v2 : zup (zup (zup (zup (zup (zup W w 1 (-1)) w 2 0) w 6 (rc : Int)) w 7 (aP a q 1)) w 4 (a 0 + 1)) w 5 mu w 2 = 0 := by simp [zup]
      have v4 : zup (zup (zup (zup (zup (zup W w 1 (-1)) w 2 0) w 6 (rc : Int)) w 7 (aP a q 1)) w 4 (a 0 + 1)) w 5 mu w 4 = a 0 + 1 := by simp [zup]
      have v5 : zup (zup (zup (zup (zup (zup W w 1 (-1)) w 2 0) w 6 (rc : Int)) w 7 (aP a q 1)) w 4 (a 0 + 1)) w 5 mu w 5 = mu := by simp [zup]
      have v6 : zup (zup (zup (zup (zup (zup W w 1 (-1)) w 2 0) w 6 (rc : Int)) w 7 (aP a q 1)) w 4 (a 0 + 1)) w 5 mu w 6 = rc := by simp [zup]
      have v7 : zup (zup (zup (zup (zup (zup W w 1 (-1)) w 2 0) w 6 (rc : Int)) w 7 (aP a q 1)) w 4 (a 0 + 1)) w 5 mu w 7 = aP a q 1 := by simp [zup]
      generalize zup (zup (zup (zup (zup (zup W w 1 (-1)) w 2 0) w 6 (rc : Int)) w 7 (aP a q 1)) w 4 (a 0 + 1)) w 5 mu = W1 at o1 v0 v1 v2 v4 v5 v6 v7 ⊢
      refine rr_aload_n (pc := 79) dX4_seek_79 rfl ?_
      refine rr_aload_n (pc := 80) dX4_seek_80 rfl ?_
      refine rr_iload_n (pc := 81) dX4_seek_81 rfl ?_
      refine rr_iload_n (pc := 82) dX4_seek_82 rfl ?_
      refine rr_inv0 (M' := MX4_layFootings) (k := w) (As := [_, _, _]) (pc := 83) dX4_seek_83 lX4_61 kX4_layFootings vX4_layFootings hw.k (by decide) rfl (by decide) (by decide) (Nat.le_of_ble_eq_true rfl) rfl (eX4_layFootings hw hc (CR_off hR (fun k g1 g2 => o1 k (by omega))) hwf (by rw [v0]; exact hbz) v4 hq0 hq1 (by omega) (by omega) (fun W2 o2 f2 => ?_))
      rw [v0] at f2
      have hS2 : zWS W2 w (zWF a q tg (W w 0)) (a 0 + 1).toNat (zWm a tg (W w 0)) rc (aP a q 1).toNat := ⟨by rw [o2 w (by omega), v4]; omega, by rw [o2 w (by omega), v5, hmu], by rw [o2 w (by omega), v6], by rw [o2 w (by omega), v7]; omega, fun k hk => f2 k (by omega), by unfold zWF zFt; rw [if_pos (Or.inl rfl)], by unfold zWF zFt; rw [if_pos (Or.inr (by omega))], fun k _ => zFt_rng _ _ _ _ _, by omega, by omega, by unfold zWm; split <;> omega, hr1, hr4, by omega, by omega⟩
      refine rr_aload_n (pc := 86) dX4_seek_86 rfl ?_
      refine rr_inv0 (M' := MX4_reckon) (k := w) (As := []) (pc := 87) dX4_seek_87 lX4_65 kX4_reckon vX4_reckon hw.k (by decide) rfl (by decide) (by decide) (Nat.le_of_ble_eq_true rfl) rfl (eX4_reckon hw hS2 (fun W3 o3 t3 => ?_))
      have hS3 : zWS W3 w (zWF a q tg (W w 0)) (a 0 + 1).toNat (zWm a tg (W w 0)) rc (aP a q 1).toNat := hS2.off (o3 w (by omega) (by omega)) (o3 (w + 2) (by omega) (by omega))
      have c0 : W3 (w + 3) 0 = zV (zWF a q tg (W w 0)) (a 0 + 1).toNat (zWm a tg (W w 0)) rc (aP a q 1).toNat 0 0 := (t3 0 0 (by omega) (by omega) (Or.inl ⟨hS2.2.2.2.2.2.1, rfl⟩)).1
      have hvr := zV_rng (F := (zWF a q tg (W w 0))) (L := (a 0 + 1).toNat) (must := (zWm a tg (W w 0))) (rc := rc) (bal := (aP a q 1).toNat) 0 0
      have k3 : ∀ k : Nat, (k < w ∨ w + 5 ≤ k) → W3 k = W k := fun k g => by rw [o3 k (by omega) (by omega), o2 k (by omega), o1 k (by omega)]
      have k0 : W3 w = W1 w := by rw [o3 w (by omega) (by omega), o2 w (by omega)]
      refine rr_aload_n (pc := 90) dX4_seek_90 rfl ?_
      refine rr_getR (pc := 91) dX4_seek_91 fX4_18 hw.k hw.r9 ?_
      refine rr_iconst (n := 0) dX4_seek_94 ?_
      refine rr_iald (pc := 95) dX4_seek_95 hw.a3 (by omega) (by omega) ?_
      rw [c0]
      refine rr_ldc (pc := 96) dX4_seek_96 cX4_k68 ?_
      refine rr_icmp_lt (pc := 98) (tgt := 103) dX4_seek_98 (by decide) (by unfold zR; omega) (by unfold zR; omega) (fun h98 => ?_) (fun h98 => ?_)
      · refine rr_aload_n (pc := 103) dX4_seek_103 rfl ?_
        refine rr_aload_n (pc := 104) dX4_seek_104 rfl ?_
        refine rr_getR (pc := 105) dX4_seek_105 fX4_18 hw.k hw.r9 ?_
        refine rr_iconst (n := 0) dX4_seek_108 ?_
        refine rr_iald (pc := 109) dX4_seek_109 hw.a3 (by omega) (by omega) ?_
        rw [c0]
        refine rr_put (pc := 110) (ji := 1) dX4_seek_110 fX4_28 fp_4_1 hw.k hw.i1 rfl ?_
        refine rr_aload_n (pc := 113) dX4_seek_113 rfl ?_
        refine rr_inv0 (M' := MX4_follow) (k := w) (As := []) (pc := 114) dX4_seek_114 lX4_69 kX4_follow vX4_follow hw.k (by decide) rfl (by decide) (by decide) (Nat.le_of_ble_eq_true rfl) rfl (eX4_follow hw (hS3.cg (fun j g1 g2 => zup_i (by omega)) (zup_other _ (by omega))) (fun k s g1 g2 g3 => by rw [zup_k (by omega), zup_k (by omega)]; exact t3 k s g1 g2 g3) h98 (by rw [zup_i (by omega), k0, v2]) (by rw [zup_i (by omega), k0, v0]; exact hbz) (fun W4 g1 g2 g3 g4 => ?_))
        refine rr_iconst (n := 1) dX4_seek_117 ?_
        have e1 : aCost a q tg rc (W w 0) = zV (zWF a q tg (W w 0)) (a 0 + 1).toNat (zWm a tg (W w 0)) rc (aP a q 1).toNat 0 0 := by rw [aCost_in (by omega) (by omega), zWc, if_pos h98]
        have e2 : aWay a q tg rc (W w 0) = zHp (zWF a q tg (W w 0)) (a 0 + 1).toNat (zWm a tg (W w 0)) rc (aP a q 1).toNat ((a 0 + 1).toNat + 1) 0 0 := by rw [aWay_in (by omega) (by omega), zWl, if_pos h98]
        rw [if_neg (show ¬ aCost a q tg rc (W w 0) = -1 by rw [e1]; omega)] at hq
        have hz0 : zup W3 w 1 (zV (zWF a q tg (W w 0)) (a 0 + 1).toNat (zWm a tg (W w 0)) rc (aP a q 1).toNat 0 0) w 0 = W w 0 := by rw [zup_i (by omega), k0, v0]
        rw [hz0, show (((a 0 + 1).toNat : Nat) : Int) = a 0 + 1 by omega] at g4
        exact rr_reti (pc := 118) dX4_seek_118 rfl rfl rfl rfl (hq W4 (fun k g => by rw [g2 k (by omega) (by omega), zup_other k (by omega)]; exact k3 k g) (by rw [g1 0 (by omega)]; exact hz0) ⟨by rw [e1, g1 1 (by omega), zup_s], by rw [e2]; exact g3, by rw [e2]; exact g4⟩)
      · refine rr_iconst (n := 0) dX4_seek_101 ?_
        have e1 : aCost a q tg rc (W w 0) = -1 := by rw [aCost_in (by omega) (by omega), zWc, if_neg (by omega)]
        have e2 : aWay a q tg rc (W w 0) = [] := by rw [aWay_in (by omega) (by omega), zWl, if_neg (by omega)]
        rw [e1, if_pos rfl] at hq
        exact rr_reti (pc := 102) dX4_seek_102 rfl rfl rfl rfl (hq W3 k3 (by rw [k0, v0]) ⟨by rw [e1, k0, v1], by rw [e2, k0, v2]; rfl, fun i hi => by rw [e2] at hi; cases hi⟩)
    refine rr_aload_n (pc := 0) dX4_seek_0 rfl ?_
    refine rr_iconst (n := (-1)) dX4_seek_1 ?_
    refine rr_put (pc := 2) (ji := 1) dX4_seek_2 fX4_28 fp_4_1 hw.k hw.i1 rfl ?_
    refine rr_aload_n (pc := 5) dX4_seek_5 rfl ?_
    refine rr_iconst (n := 0) dX4_seek_6 ?_
    refine rr_put (pc := 7) (ji := 2) dX4_seek_7 fX4_32 fp_4_2 hw.k hw.i2 rfl ?_
    refine rr_iload_n (pc := 10) dX4_seek_10 rfl ?_
    refine rr_iconst (n := 1) dX4_seek_11 ?_
    refine rr_icmp_lt (pc := 12) (tgt := 23) dX4_seek_12 (by decide) (by unfold zR; omega) (by unfold zR; omega) (fun h12 => ?_) (fun h12 => ?_)
    · omega
    · refine rr_iload_n (pc := 15) dX4_seek_15 rfl ?_
      refine rr_aload_n (pc := 16) dX4_seek_16 rfl ?_
      refine rr_getI (pc := 17) (ji := 1) dX4_seek_17 fX4_35 hc.k hc.i1 rfl ?_
      rw [zup_k (by omega), zup_k (by omega), r1]
      refine rr_icmp_le (pc := 20) (tgt := 25) dX4_seek_20 (by decide) (by unfold zR; omega) (by unfold zR; omega) (fun h20 => ?_) (fun h20 => ?_)
      · refine rr_aload_n (pc := 25) dX4_seek_25 rfl ?_
        refine rr_iload (pc := 26) dX4_seek_26 rfl ?_
        refine rr_put (pc := 28) (ji := 6) dX4_seek_28 fX4_40 fp_4_6 hw.k hw.i6 rfl ?_
        refine rr_aload_n (pc := 31) dX4_seek_31 rfl ?_
        refine rr_aload_n (pc := 32) dX4_seek_32 rfl ?_
        refine rr_iload_n (pc := 33) dX4_seek_33 rfl ?_
        refine rr_iconst (n := 1) dX4_seek_34 ?_
        refine rr_invN (M' := MX0_get) (k := c) (As := [_, _]) (pc := 35) dX4_seek_35 lX4_43 kX0_get vX0_get hc.k (by decide) rfl (by decide) (by decide) (Nat.le_of_ble_eq_true rfl) rfl (eX0_get hc (by omega) (by omega) (by omega) (by omega) ?_)
        rw [show ((1 : Int)) = 1 from rfl, zup_k (by omega), zup_k (by omega), zup_k (by omega), (rP q hq0 hq1).2.1]
        refine rr_put (pc := 38) (ji := 7) dX4_seek_38 fX4_47 fp_4_7 hw.k hw.i7 rfl ?_
        refine rr_aload_n (pc := 41) dX4_seek_41 rfl ?_
        refine rr_aload_n (pc := 42) dX4_seek_42 rfl ?_
        refine rr_getI (pc := 43) (ji := 0) dX4_seek_43 fX4_50 hc.k hc.i0 rfl ?_
        rw [zup_k (by omega), zup_k (by omega), zup_k (by omega), zup_k (by omega), r0]
        refine rr_iconst (n := 1) dX4_seek_46 ?_
        refine rr_iadd (pc := 47) dX4_seek_47 ?_
        refine rr_put (pc := 48) (ji := 4) dX4_seek_48 fX4_52 fp_4_4 hw.k hw.i4 rfl ?_
        refine rr_aload_n (pc := 51) dX4_seek_51 rfl ?_
        refine rr_aload_n (pc := 52) dX4_seek_52 rfl ?_
        refine rr_getI (pc := 53) (ji := 0) dX4_seek_53 fX4_24 hw.k hw.i0 rfl ?_
        rw [zup_i (by omega), zup_i (by omega), zup_i (by omega), zup_i (by omega), zup_i (by omega)]
        refine rr_if_eq (pc := 56) (tgt := 75) dX4_seek_56 (by decide) hbz (fun h56 => ?_) (fun h56 => ?_)
        · refine rr_iconst (n := 0) dX4_seek_75 ?_
          exact main _ (by unfold zWm; rw [if_pos h56]; rfl)
        · refine rr_aload_n (pc := 59) dX4_seek_59 rfl ?_
          refine rr_getI (pc := 60) (ji := 0) dX4_seek_60 fX4_50 hc.k hc.i0 rfl ?_
          rw [zup_k (by omega), zup_k (by omega), zup_k (by omega), zup_k (by omega), zup_k (by omega), r0]
          refine rr_iconst (n := 1) dX4_seek_63 ?_
          refine rr_isub (pc := 64) dX4_seek_64 ?_
          refine rr_aload_n (pc := 65) dX4_seek_65 rfl ?_
          refine rr_getR (pc := 66) dX4_seek_66 fX4_55 hc.k hc.r9 ?_
          refine rr_iload_n (pc := 69) dX4_seek_69 rfl ?_
          refine rr_iald (pc := 70) dX4_seek_70 hc.a2 (by omega) (by omega) ?_
          rw [zup_k (by omega), zup_k (by omega), zup_k (by omega), zup_k (by omega), zup_k (by omega), (rS tg (by omega) (by omega) (by omega)).1]
          refine rr_isub (pc := 71) dX4_seek_71 ?_
          refine rr_goto (pc := 72) (tgt := 76) dX4_seek_72 (by decide) ?_
          exact main _ (by unfold zWm; rw [if_neg h56]; omega)
      · omega
  · refine rr_aload_n (pc := 0) dX4_seek_0 rfl ?_
    refine rr_iconst (n := (-1)) dX4_seek_1 ?_
    refine rr_put (pc := 2) (ji := 1) dX4_seek_2 fX4_28 fp_4_1 hw.k hw.i1 rfl ?_
    refine rr_aload_n (pc := 5) dX4_seek_5 rfl ?_
    refine rr_iconst (n := 0) dX4_seek_6 ?_
    refine rr_put (pc := 7) (ji := 2) dX4_seek_7 fX4_32 fp_4_2 hw.k hw.i2 rfl ?_
    refine rr_iload_n (pc := 10) dX4_seek_10 rfl ?_
    refine rr_iconst (n := 1) dX4_seek_11 ?_
    refine rr_icmp_lt (pc := 12) (tgt := 23) dX4_seek_12 (by decide) (by unfold zR; omega) (by unfold zR; omega) (fun h12 => ?_) (fun h12 => ?_)
    · have e1 : aCost a q tg rc (W w 0) = -1 := if_pos (by omega)
      have e2 : aWay a q tg rc (W w 0) = [] := if_pos (by omega)
      rw [e1, if_pos rfl] at hq
      refine rr_iconst (n := 0) dX4_seek_23 ?_
      exact rr_reti (pc := 24) dX4_seek_24 rfl rfl rfl rfl (hq _ (fun k g => by rw [zup_other k (by omega), zup_other k (by omega)]) (by rw [zup_i (by omega), zup_i (by omega)]) ⟨by rw [e1, zup_i (by omega), zup_s], by rw [e2, zup_s]; rfl, fun i hi => by rw [e2] at hi; cases hi⟩)
    · refine rr_iload_n (pc := 15) dX4_seek_15 rfl ?_
      refine rr_aload_n (pc := 16) dX4_seek_16 rfl ?_
      refine rr_getI (pc := 17) (ji := 1) dX4_seek_17 fX4_35 hc.k hc.i1 rfl ?_
      rw [zup_k (by omega), zup_k (by omega), r1]
      refine rr_icmp_le (pc := 20) (tgt := 25) dX4_seek_20 (by decide) (by unfold zR; omega) (by unfold zR; omega) (fun h20 => ?_) (fun h20 => ?_)
      · omega
      · have e1 : aCost a q tg rc (W w 0) = -1 := if_pos (by omega)
        have e2 : aWay a q tg rc (W w 0) = [] := if_pos (by omega)
        rw [e1, if_pos rfl] at hq
        refine rr_iconst (n := 0) dX4_seek_23 ?_
        exact rr_reti (pc := 24) dX4_seek_24 rfl rfl rfl rfl (hq _ (fun k g => by rw [zup_other k (by omega), zup_other k (by omega)]) (by rw [zup_i (by omega), zup_i (by omega)]) ⟨by rw [e1, zup_i (by omega), zup_s], by rw [e2, zup_s]; rfl, fun i hi => by rw [e2] at hi; cases hi⟩)
