def sLoad (L : List Int) : zRs := sCourt (fun k => L.getD k 0) L.length
def zOffL (W W' : zWd) : Prop := ∀ k : Nat, 80 ≤ k → k ≠ 108 → k ≠ 112 → W' k = W k
theorem zTL.nil {W : zWd} : zTL (zup W 112 1 0) [] := ⟨zup_s, by decide, fun b h => absurd h (by simp), fun k h => absurd h (by simp)⟩
theorem dX6_load_0 : decode cX6_load 0 = .ok (.aload_n 0, 1) := by decide +kernel
theorem dX6_load_1 : decode cX6_load 1 = .ok (.getfield 44, 3) := by decide +kernel
theorem dX6_load_4 : decode cX6_load 4 = .ok (.aload_n 0, 1) := by decide +kernel
theorem dX6_load_5 : decode cX6_load 5 = .ok (.getfield 16, 3) := by decide +kernel
theorem dX6_load_8 : decode cX6_load 8 = .ok (.invokevirtual 83, 3) := by decide +kernel
theorem dX6_load_11 : decode cX6_load 11 = .ok (.istore_n 1, 1) := by decide +kernel
theorem dX6_load_12 : decode cX6_load 12 = .ok (.aload_n 0, 1) := by decide +kernel
theorem dX6_load_13 : decode cX6_load 13 = .ok (.getfield 44, 3) := by decide +kernel
theorem dX6_load_16 : decode cX6_load 16 = .ok (.iconst 0, 1) := by decide +kernel
theorem dX6_load_17 : decode cX6_load 17 = .ok (.putfield 69, 3) := by decide +kernel
theorem dX6_load_20 : decode cX6_load 20 = .ok (.iload_n 1, 1) := by decide +kernel
theorem dX6_load_21 : decode cX6_load 21 = .ok (.ifCond .ne 11, 3) := by decide +kernel
theorem dX6_load_24 : decode cX6_load 24 = .ok (.aload_n 0, 1) := by decide +kernel
theorem dX6_load_25 : decode cX6_load 25 = .ok (.getfield 44, 3) := by decide +kernel
theorem dX6_load_28 : decode cX6_load 28 = .ok (.getfield 87, 3) := by decide +kernel
theorem dX6_load_31 : decode cX6_load 31 = .ok (.ireturn, 1) := by decide +kernel
theorem dX6_load_32 : decode cX6_load 32 = .ok (.aload_n 0, 1) := by decide +kernel
theorem dX6_load_33 : decode cX6_load 33 = .ok (.getfield 29, 3) := by decide +kernel
theorem dX6_load_36 : decode cX6_load 36 = .ok (.aload_n 0, 1) := by decide +kernel
theorem dX6_load_37 : decode cX6_load 37 = .ok (.getfield 12, 3) := by decide +kernel
theorem dX6_load_40 : decode cX6_load 40 = .ok (.invokevirtual 90, 3) := by decide +kernel
theorem dX6_load_43 : decode cX6_load 43 = .ok (.aload_n 0, 1) := by decide +kernel
theorem dX6_load_44 : decode cX6_load 44 = .ok (.getfield 12, 3) := by decide +kernel
theorem dX6_load_47 : decode cX6_load 47 = .ok (.aload_n 0, 1) := by decide +kernel
theorem dX6_load_48 : decode cX6_load 48 = .ok (.getfield 16, 3) := by decide +kernel
theorem dX6_load_51 : decode cX6_load 51 = .ok (.invokevirtual 94, 3) := by decide +kernel
theorem dX6_load_54 : decode cX6_load 54 = .ok (.aload_n 0, 1) := by decide +kernel
theorem dX6_load_55 : decode cX6_load 55 = .ok (.getfield 12, 3) := by decide +kernel
theorem dX6_load_58 : decode cX6_load 58 = .ok (.getfield 97, 3) := by decide +kernel
theorem dX6_load_61 : decode cX6_load 61 = .ok (.ireturn, 1) := by decide +kernel
theorem eX6_load {W : zWd} {a : Int → Int} {T n : Int} {K : Nat → (Int → Int)} {L : List Int} {Q : Option Value → zWd → Prop} {X : zX} (hR : zCR W 0 a) (hw : zWf T a) (hH : zHi W n K) (hg : zGm W) (hT : zTL W L) (hBy : zByt W) (hq0 : ∀ e, sLoad L = .inl e → ∀ W', zOffL W W' → zByt W' → zTL W' [] → W' 112 6 = e.2 → zCR W' 0 a → zHi W' n K → Q (some (zI e.1)) W') (hq1 : ∀ p a', sLoad L = .inr (p, a') → zWf 0 a' → ∀ W', zOffL W W' → zByt W' → zTL W' [] → W' 112 6 = -1 → zCR W' 0 (aMend a') → zHi W' (if n + 1 < 8 then n + 1 else 8) (zPush a K) → Q (some (zI (aMend a' 1))) W') : Ev MX6_load 10 0 W [.ref 96] Q X := by
  refine ev_of (ls := [.ref 96, .null]) (by decide) rfl (fun _ => rfl) (fun _ => Nat.le_of_ble_eq_true rfl) (Or.inl rfl) ?_
  refine rr_aload_n (pc := 0) dX6_load_0 rfl ?_
  refine rr_getR (pc := 1) dX6_load_1 fX6_44 zk_96 zr_96_6 ?_
  refine rr_aload_n (pc := 4) dX6_load_4 rfl ?_
  refine rr_getR (pc := 5) dX6_load_5 fX6_16 zk_96 zr_96_1 ?_
  refine rr_invN (M' := MX3_readCourt) (k := 112) (As := [_]) (pc := 8) dX6_load_8 lX6_83 kX3_readCourt vX3_readCourt zk_112 (by decide) rfl (by decide) (by decide) (Nat.le_of_ble_eq_true rfl) rfl (eX3_readCourt hT.tx hBy (fun e he W1 o1 b1 e5 e6 => ?_) (fun p9 a9 he f9 W1 o1 e6 c1 => ?_))
  · refine rr_istore_n (pc := 11) dX6_load_11 (by decide) ?_
    refine rr_aload_n (pc := 12) dX6_load_12 rfl ?_
    refine rr_getR (pc := 13) dX6_load_13 fX6_44 zk_96 zr_96_6 ?_
    refine rr_iconst (n := 0) dX6_load_16 ?_
    refine rr_put (pc := 17) (ji := 1) dX6_load_17 fX6_69 fp_3_1 zk_112 zr_112_1 rfl ?_
    have hl2 : zTL (zup W1 112 1 0) [] := zTL.nil
    have o2 : ∀ k : Nat, k ≠ 112 → zup W1 112 1 0 k = W1 k := fun k g => zup_other k g
    have o21 : ∀ j : Int, j ≠ 1 → zup W1 112 1 0 112 j = W1 112 j := fun j g => zup_i g
    generalize zup W1 112 1 0 = W2 at hl2 o2 o21 ⊢
    have hR2 : zCR W2 0 a := CR_off hR (fun k g1 g2 => (o2 k (by omega)).trans (o1 k (by omega) (by omega)))
    have hH2 : zHi W2 n K := hH.off (fun k g1 g2 => (o2 k (by omega)).trans (o1 k (by omega) (by omega))) ((o2 108 (by decide)).trans (o1 108 (by omega) (by decide)))
    have oL : zOffL W W2 := fun k g1 g2 g3 => (o2 k g3).trans (o1 k (by omega) g3)
    refine rr_iload_n (pc := 20) dX6_load_20 rfl ?_
    refine rr_if_ne (pc := 21) (tgt := 32) dX6_load_21 (by decide) (by unfold zR; omega) (fun h => by omega) (fun h => ?_)
    refine rr_aload_n (pc := 24) dX6_load_24 rfl ?_
    refine rr_getR (pc := 25) dX6_load_25 fX6_44 zk_96 zr_96_6 ?_
    refine rr_getI (pc := 28) (ji := 5) dX6_load_28 fX6_87 zk_112 zr_112_5 rfl ?_
    rw [o21 5 (by decide), e5]
    exact rr_reti (pc := 31) dX6_load_31 rfl rfl rfl rfl (hq0 e he W2 oL (fun i g1 g2 => by rw [o2 14 (by decide)]; exact b1 i g1 g2) hl2 ((o21 6 (by decide)).trans e6) hR2 hH2)
  · refine rr_istore_n (pc := 11) dX6_load_11 (by decide) ?_
    refine rr_aload_n (pc := 12) dX6_load_12 rfl ?_
    refine rr_getR (pc := 13) dX6_load_13 fX6_44 zk_96 zr_96_6 ?_
    refine rr_iconst (n := 0) dX6_load_16 ?_
    refine rr_put (pc := 17) (ji := 1) dX6_load_17 fX6_69 fp_3_1 zk_112 zr_112_1 rfl ?_
    have hl2 : zTL (zup W1 112 1 0) [] := zTL.nil
    have o2 : ∀ k : Nat, k ≠ 112 → zup W1 112 1 0 k = W1 k := fun k g => zup_other k g
    have o21 : ∀ j : Int, j ≠ 1 → zup W1 112 1 0 112 j = W1 112 j := fun j g => zup_i g
    generalize zup W1 112 1 0 = W2 at hl2 o2 o21 ⊢
    have hR2 : zCR W2 0 a := CR_off hR (fun k g1 g2 => (o2 k (by omega)).trans (o1 k (by omega) (by omega)))
    have hH2 : zHi W2 n K := hH.off (fun k g1 g2 => (o2 k (by omega)).trans (o1 k (by omega) (by omega))) ((o2 108 (by decide)).trans (o1 108 (by omega) (by decide)))
    have oL : zOffL W W2 := fun k g1 g2 g3 => (o2 k g3).trans (o1 k (by omega) g3)
    refine rr_iload_n (pc := 20) dX6_load_20 rfl ?_
    refine rr_if_ne (pc := 21) (tgt := 32) dX6_load_21 (by decide) (by unfold zR; omega) (fun h => ?_) (fun h => by omega)
    refine rr_aload_n (pc := 32) dX6_load_32 rfl ?_
    refine rr_getR (pc := 33) dX6_load_33 fX6_29 zk_96 zr_96_3 ?_
    refine rr_aload_n (pc := 36) dX6_load_36 rfl ?_
    refine rr_getR (pc := 37) dX6_load_37 fX6_12 zk_96 zr_96_0 ?_
    refine rr_invN (M' := MX2_keep) (k := 108) (As := [_]) (pc := 40) dX6_load_40 lX6_90 kX2_keep vX2_keep zk_108 (by decide) rfl (by decide) (by decide) (Nat.le_of_ble_eq_true rfl) rfl (eX2_keep hR2 hw hH2 (fun W3 o3 i3 => ?_))
    have c3 : zCR W3 8 (aMend a9) := CR_off c1 (fun k g1 g2 => (o3 k (Or.inl (by omega)) (by omega)).trans (o2 k (by omega)))
    have f3 : zWf 0 (aMend a9) := aMend_wf f9
    have q3 := f3.2.2.2.2.2.1
    refine rr_aload_n (pc := 43) dX6_load_43 rfl ?_
    refine rr_getR (pc := 44) dX6_load_44 fX6_12 zk_96 zr_96_0 ?_
    refine rr_aload_n (pc := 47) dX6_load_47 rfl ?_
    refine rr_getR (pc := 48) dX6_load_48 fX6_16 zk_96 zr_96_1 ?_
    refine rr_invN (M' := MX0_copyFrom) (k := 0) (As := [_]) (pc := 51) dX6_load_51 lX6_94 kX0_copyFrom vX0_copyFrom zCt_0.k (by decide) rfl (by decide) (by decide) (Nat.le_of_ble_eq_true rfl) rfl (eX0_copyFrom zCt_0 zCt_8 (by decide) c3.2.2.2.2.2.2.2.2.2.2.2 (fun W4 o4 c4 => ?_))
    have c4 := c4 (aMend a9) q3 c3
    have e112 : W4 112 = W2 112 := (o4 112 (by omega)).trans (o3 112 (Or.inr (by omega)) (by decide))
    refine rr_aload_n (pc := 54) dX6_load_54 rfl ?_
    refine rr_getR (pc := 55) dX6_load_55 fX6_12 zk_96 zr_96_0 ?_
    refine rr_getI (pc := 58) (ji := 1) dX6_load_58 fX6_97 zCt_0.k zCt_0.i1 rfl ?_
    rw [c4.2.1]
    exact rr_reti (pc := 61) dX6_load_61 rfl rfl rfl rfl (hq1 p9 a9 he f9 W4 (fun k g1 g2 g3 => ((o4 k (by omega)).trans (o3 k (Or.inr g1) g2)).trans (oL k g1 g2 g3)) (fun i g1 g2 => by rw [o4 14 (by omega)]; exact c3.by8 i g1 g2) ⟨by rw [e112]; exact hl2.1, hl2.2.1, hl2.2.2.1, fun k g => absurd g (by simp)⟩ (by rw [e112, o21 6 (by decide)]; exact e6) c4 (i3.c0 o4))
theorem dX6_append_0 : decode cX6_append 0 = .ok (.iload_n 1, 1) := by decide +kernel
theorem dX6_append_1 : decode cX6_append 1 = .ok (.invokestatic 65, 3) := by decide +kernel
theorem dX6_append_4 : decode cX6_append 4 = .ok (.iload_n 2, 1) := by decide +kernel
theorem dX6_append_5 : decode cX6_append 5 = .ok (.invokestatic 65, 3) := by decide +kernel
theorem dX6_append_8 : decode cX6_append 8 = .ok (.iadd, 1) := by decide +kernel
theorem dX6_append_9 : decode cX6_append 9 = .ok (.iload_n 3, 1) := by decide +kernel
theorem dX6_append_10 : decode cX6_append 10 = .ok (.invokestatic 65, 3) := by decide +kernel
theorem dX6_append_13 : decode cX6_append 13 = .ok (.iadd, 1) := by decide +kernel
theorem dX6_append_14 : decode cX6_append 14 = .ok (.iload 4, 2) := by decide +kernel
theorem dX6_append_16 : decode cX6_append 16 = .ok (.invokestatic 65, 3) := by decide +kernel
theorem dX6_append_19 : decode cX6_append 19 = .ok (.iadd, 1) := by decide +kernel
theorem dX6_append_20 : decode cX6_append 20 = .ok (.iload 5, 2) := by decide +kernel
theorem dX6_append_22 : decode cX6_append 22 = .ok (.invokestatic 65, 3) := by decide +kernel
theorem dX6_append_25 : decode cX6_append 25 = .ok (.iadd, 1) := by decide +kernel
theorem dX6_append_26 : decode cX6_append 26 = .ok (.istore 6, 2) := by decide +kernel
theorem dX6_append_28 : decode cX6_append 28 = .ok (.aload_n 0, 1) := by decide +kernel
theorem dX6_append_29 : decode cX6_append 29 = .ok (.getfield 44, 3) := by decide +kernel
theorem dX6_append_32 : decode cX6_append 32 = .ok (.getfield 69, 3) := by decide +kernel
theorem dX6_append_35 : decode cX6_append 35 = .ok (.iload 6, 2) := by decide +kernel
theorem dX6_append_37 : decode cX6_append 37 = .ok (.iadd, 1) := by decide +kernel
theorem dX6_append_38 : decode cX6_append 38 = .ok (.sipush 600, 3) := by decide +kernel
theorem dX6_append_41 : decode cX6_append 41 = .ok (.if_icmp .le 13, 3) := by decide +kernel
theorem dX6_append_44 : decode cX6_append 44 = .ok (.new 73, 3) := by decide +kernel
theorem dX6_append_47 : decode cX6_append 47 = .ok (.dup, 1) := by decide +kernel
theorem dX6_append_48 : decode cX6_append 48 = .ok (.ldc 75, 2) := by decide +kernel
theorem dX6_append_50 : decode cX6_append 50 = .ok (.invokespecial 77, 3) := by decide +kernel
theorem dX6_append_53 : decode cX6_append 53 = .ok (.athrow, 1) := by decide +kernel
theorem dX6_append_54 : decode cX6_append 54 = .ok (.aload_n 0, 1) := by decide +kernel
theorem dX6_append_55 : decode cX6_append 55 = .ok (.getfield 44, 3) := by decide +kernel
theorem dX6_append_58 : decode cX6_append 58 = .ok (.iload_n 1, 1) := by decide +kernel
theorem dX6_append_59 : decode cX6_append 59 = .ok (.invokevirtual 80, 3) := by decide +kernel
theorem dX6_append_62 : decode cX6_append 62 = .ok (.aload_n 0, 1) := by decide +kernel
theorem dX6_append_63 : decode cX6_append 63 = .ok (.getfield 44, 3) := by decide +kernel
theorem dX6_append_66 : decode cX6_append 66 = .ok (.iload_n 2, 1) := by decide +kernel
theorem dX6_append_67 : decode cX6_append 67 = .ok (.invokevirtual 80, 3) := by decide +kernel
theorem dX6_append_70 : decode cX6_append 70 = .ok (.aload_n 0, 1) := by decide +kernel
theorem dX6_append_71 : decode cX6_append 71 = .ok (.getfield 44, 3) := by decide +kernel
theorem dX6_append_74 : decode cX6_append 74 = .ok (.iload_n 3, 1) := by decide +kernel
theorem dX6_append_75 : decode cX6_append 75 = .ok (.invokevirtual 80, 3) := by decide +kernel
theorem dX6_append_78 : decode cX6_append 78 = .ok (.aload_n 0, 1) := by decide +kernel
theorem dX6_append_79 : decode cX6_append 79 = .ok (.getfield 44, 3) := by decide +kernel
theorem dX6_append_82 : decode cX6_append 82 = .ok (.iload 4, 2) := by decide +kernel
theorem dX6_append_84 : decode cX6_append 84 = .ok (.invokevirtual 80, 3) := by decide +kernel
theorem dX6_append_87 : decode cX6_append 87 = .ok (.aload_n 0, 1) := by decide +kernel
theorem dX6_append_88 : decode cX6_append 88 = .ok (.getfield 44, 3) := by decide +kernel
theorem dX6_append_91 : decode cX6_append 91 = .ok (.iload 5, 2) := by decide +kernel
theorem dX6_append_93 : decode cX6_append 93 = .ok (.invokevirtual 80, 3) := by decide +kernel
theorem dX6_append_96 : decode cX6_append 96 = .ok (.aload_n 0, 1) := by decide +kernel
theorem dX6_append_97 : decode cX6_append 97 = .ok (.getfield 44, 3) := by decide +kernel
theorem dX6_append_100 : decode cX6_append 100 = .ok (.getfield 69, 3) := by decide +kernel
theorem dX6_append_103 : decode cX6_append 103 = .ok (.ireturn, 1) := by decide +kernel
theorem eX6_append {W : zWd} {L : List Int} {v0 v1 v2 v3 v4 : Int} {Q : Option Value → zWd → Prop} {X : zX} (hz0 : zR v0) (hz1 : zR v1) (hz2 : zR v2) (hz3 : zR v3) (hz4 : zR v4) (hT : zTL W L) (hq : L.length + ((aBy v0 4).length + (aBy v1 4).length + (aBy v2 4).length + (aBy v3 4).length + (aBy v4 4).length) ≤ 600 → ∀ W' : zWd, zOfft2 W W' → zTL W' (L ++ aBy v0 4 ++ aBy v1 4 ++ aBy v2 4 ++ aBy v3 4 ++ aBy v4 4) → Q (some (zI ((L ++ aBy v0 4 ++ aBy v1 4 ++ aBy v2 4 ++ aBy v3 4 ++ aBy v4 4).length : Nat))) W') (hx : 600 < L.length + ((aBy v0 4).length + (aBy v1 4).length + (aBy v2 4).length + (aBy v3 4).length + (aBy v4 4).length) → X "java/lang/IllegalStateException" W) : Ev MX6_append 7 1 W [.ref 96, zI v0, zI v1, zI v2, zI v3, zI v4] Q X := by
  refine ev_of (ls := [.ref 96, zI v0, zI v1, zI v2, zI v3, zI v4, .null]) (by decide) rfl (fun _ => rfl) (fun _ => Nat.le_of_ble_eq_true rfl) (Or.inr (by decide)) ?_
  have hl6 := hT.2.1
  have m0 := @aBy_len v0 4
  have m1 := @aBy_len v1 4
  have m2 := @aBy_len v2 4
  have m3 := @aBy_len v3 4
  have m4 := @aBy_len v4 4
  refine rr_iload_n (pc := 0) dX6_append_0 rfl ?_
  refine rr_staN (M' := MX3_bytesIn) (As := [_]) (pc := 1) dX6_append_1 lX6_65 kX3_bytesIn sX3_bytesIn (by decide) (by decide) (Nat.le_of_ble_eq_true rfl) rfl (eX3_bytesIn hz0 ?_)
  refine rr_iload_n (pc := 4) dX6_append_4 rfl ?_
  refine rr_staN (M' := MX3_bytesIn) (As := [_]) (pc := 5) dX6_append_5 lX6_65 kX3_bytesIn sX3_bytesIn (by decide) (by decide) (Nat.le_of_ble_eq_true rfl) rfl (eX3_bytesIn hz1 ?_)
  refine rr_iadd (pc := 8) dX6_append_8 ?_
  refine rr_iload_n (pc := 9) dX6_append_9 rfl ?_
  refine rr_staN (M' := MX3_bytesIn) (As := [_]) (pc := 10) dX6_append_10 lX6_65 kX3_bytesIn sX3_bytesIn (by decide) (by decide) (Nat.le_of_ble_eq_true rfl) rfl (eX3_bytesIn hz2 ?_)
  refine rr_iadd (pc := 13) dX6_append_13 ?_
  refine rr_iload (pc := 14) dX6_append_14 rfl ?_
  refine rr_staN (M' := MX3_bytesIn) (As := [_]) (pc := 16) dX6_append_16 lX6_65 kX3_bytesIn sX3_bytesIn (by decide) (by decide) (Nat.le_of_ble_eq_true rfl) rfl (eX3_bytesIn hz3 ?_)
  refine rr_iadd (pc := 19) dX6_append_19 ?_
  refine rr_iload (pc := 20) dX6_append_20 rfl ?_
  refine rr_staN (M' := MX3_bytesIn) (As := [_]) (pc := 22) dX6_append_22 lX6_65 kX3_bytesIn sX3_bytesIn (by decide) (by decide) (Nat.le_of_ble_eq_true rfl) rfl (eX3_bytesIn hz4 ?_)
  refine rr_iadd (pc := 25) dX6_append_25 ?_
  refine rr_istore (pc := 26) dX6_append_26 (by decide) ?_
  refine rr_aload_n (pc := 28) dX6_append_28 rfl ?_
  refine rr_getR (pc := 29) dX6_append_29 fX6_44 zk_96 zr_96_6 ?_
  refine rr_getI (pc := 32) (ji := 1) dX6_append_32 fX6_69 zk_112 zr_112_1 rfl ?_
  rw [hT.1]
  refine rr_iload (pc := 35) dX6_append_35 rfl ?_
  refine rr_iadd (pc := 37) dX6_append_37 ?_
  refine rr_sipush (n := (600)) dX6_append_38 ?_
  refine rr_icmp_le (pc := 41) (tgt := 54) dX6_append_41 (by decide) (by unfold zR; omega) (by unfold zR; omega) (fun h41 => ?_) (fun h41 => ?_)
  · refine rr_aload_n (pc := 54) dX6_append_54 rfl ?_
    refine rr_getR (pc := 55) dX6_append_55 fX6_44 zk_96 zr_96_6 ?_
    refine rr_iload_n (pc := 58) dX6_append_58 rfl ?_
    refine rr_invN (M' := MX3_addBytes) (k := 112) (As := [_]) (pc := 59) dX6_append_59 lX6_80 kX3_addBytes vX3_addBytes zk_112 (by decide) rfl (by decide) (by decide) (Nat.le_of_ble_eq_true rfl) rfl (eX3_addBytes hz0 hT (by omega) (fun W1 o1 t1 => ?_))
    refine rr_aload_n (pc := 62) dX6_append_62 rfl ?_
    refine rr_getR (pc := 63) dX6_append_63 fX6_44 zk_96 zr_96_6 ?_
    refine rr_iload_n (pc := 66) dX6_append_66 rfl ?_
    refine rr_invN (M' := MX3_addBytes) (k := 112) (As := [_]) (pc := 67) dX6_append_67 lX6_80 kX3_addBytes vX3_addBytes zk_112 (by decide) rfl (by decide) (by decide) (Nat.le_of_ble_eq_true rfl) rfl (eX3_addBytes hz1 t1 (by simp only [List.length_append]; omega) (fun W2 o2 t2 => ?_))
    refine rr_aload_n (pc := 70) dX6_append_70 rfl ?_
    refine rr_getR (pc := 71) dX6_append_71 fX6_44 zk_96 zr_96_6 ?_
    refine rr_iload_n (pc := 74) dX6_append_74 rfl ?_
    refine rr_invN (M' := MX3_addBytes) (k := 112) (As := [_]) (pc := 75) dX6_append_75 lX6_80 kX3_addBytes vX3_addBytes zk_112 (by decide) rfl (by decide) (by decide) (Nat.le_of_ble_eq_true rfl) rfl (eX3_addBytes hz2 t2 (by simp only [List.length_append]; omega) (fun W3 o3 t3 => ?_))
    refine rr_aload_n (pc := 78) dX6_append_78 rfl ?_
    refine rr_getR (pc := 79) dX6_append_79 fX6_44 zk_96 zr_96_6 ?_
    refine rr_iload (pc := 82) dX6_append_82 rfl ?_
    refine rr_invN (M' := MX3_addBytes) (k := 112) (As := [_]) (pc := 84) dX6_append_84 lX6_80 kX3_addBytes vX3_addBytes zk_112 (by decide) rfl (by decide) (by decide) (Nat.le_of_ble_eq_true rfl) rfl (eX3_addBytes hz3 t3 (by simp only [List.length_append]; omega) (fun W4 o4 t4 => ?_))
    refine rr_aload_n (pc := 87) dX6_append_87 rfl ?_
    refine rr_getR (pc := 88) dX6_append_88 fX6_44 zk_96 zr_96_6 ?_
    refine rr_iload (pc := 91) dX6_append_91 rfl ?_
    refine rr_invN (M' := MX3_addBytes) (k := 112) (As := [_]) (pc := 93) dX6_append_93 lX6_80 kX3_addBytes vX3_addBytes zk_112 (by decide) rfl (by decide) (by decide) (Nat.le_of_ble_eq_true rfl) rfl (eX3_addBytes hz4 t4 (by simp only [List.length_append]; omega) (fun W5 o5 t5 => ?_))
    refine rr_aload_n (pc := 96) dX6_append_96 rfl ?_
    refine rr_getR (pc := 97) dX6_append_97 fX6_44 zk_96 zr_96_6 ?_
    refine rr_getI (pc := 100) (ji := 1) dX6_append_100 fX6_69 zk_112 zr_112_1 rfl ?_
    rw [t5.1]
    exact rr_reti (pc := 103) dX6_append_103 rfl rfl rfl rfl (hq (by omega) W5 (o1.tr (o2.tr (o3.tr (o4.tr o5)))) t5)
  · exact rr_thr (by decide) tX6_append_44 (hx (by omega))
