theorem dX6_writeCourt_0 : decode cX6_writeCourt 0 = .ok (.aload_n 0, 1) := by decide +kernel
theorem dX6_writeCourt_1 : decode cX6_writeCourt 1 = .ok (.getfield 51, 3) := by decide +kernel
theorem dX6_writeCourt_4 : decode cX6_writeCourt 4 = .ok (.aload_n 0, 1) := by decide +kernel
theorem dX6_writeCourt_5 : decode cX6_writeCourt 5 = .ok (.getfield 12, 3) := by decide +kernel
theorem dX6_writeCourt_8 : decode cX6_writeCourt 8 = .ok (.invokevirtual 286, 3) := by decide +kernel
theorem dX6_writeCourt_11 : decode cX6_writeCourt 11 = .ok (.aload_n 0, 1) := by decide +kernel
theorem dX6_writeCourt_12 : decode cX6_writeCourt 12 = .ok (.getfield 51, 3) := by decide +kernel
theorem dX6_writeCourt_15 : decode cX6_writeCourt 15 = .ok (.getfield 289, 3) := by decide +kernel
theorem dX6_writeCourt_18 : decode cX6_writeCourt 18 = .ok (.ireturn, 1) := by decide +kernel
theorem eX6_writeCourt {W : zWd} {a : Int → Int} {T : Int} {Q : Option Value → zWd → Prop} {X : zX} (hR : zCR W 0 a) (hw : zWf T a) (hq : ∀ W' : zWd, zOfft W W' → zWt W' (vText a) → Q (some (zI ((vText a).length : Nat))) W') : Ev MX6_writeCourt 3 0 W [.ref 96] Q X := by
  refine ev_of (ls := [.ref 96]) (by decide) rfl (fun _ => rfl) (fun _ => Nat.le_of_ble_eq_true rfl) (Or.inl rfl) ?_
  refine rr_aload_n (pc := 0) dX6_writeCourt_0 rfl ?_
  refine rr_getR (pc := 1) dX6_writeCourt_1 fX6_51 zk_96 zr_96_7 ?_
  refine rr_aload_n (pc := 4) dX6_writeCourt_4 rfl ?_
  refine rr_getR (pc := 5) dX6_writeCourt_5 fX6_12 zk_96 zr_96_0 ?_
  refine rr_invN (M' := MX5_write) (k := 114) (As := [_]) (pc := 8) dX6_writeCourt_8 lX6_286 kX5_write vX5_write zk_114 (by decide) rfl (by decide) (by decide) (Nat.le_of_ble_eq_true rfl) rfl (eX5_write hR hw (fun W1 o1 t1 => ?_))
  refine rr_aload_n (pc := 11) dX6_writeCourt_11 rfl ?_
  refine rr_getR (pc := 12) dX6_writeCourt_12 fX6_51 zk_96 zr_96_7 ?_
  refine rr_getI (pc := 15) (ji := 1) dX6_writeCourt_15 fX6_289 zk_114 zr_114_1 rfl ?_
  rw [t1.1]
  exact rr_reti (pc := 18) dX6_writeCourt_18 rfl rfl rfl rfl (hq W1 o1 t1)
theorem dX6_writtenByte_0 : decode cX6_writtenByte 0 = .ok (.iload_n 1, 1) := by decide +kernel
theorem dX6_writtenByte_1 : decode cX6_writtenByte 1 = .ok (.ifCond .lt 14, 3) := by decide +kernel
theorem dX6_writtenByte_4 : decode cX6_writtenByte 4 = .ok (.iload_n 1, 1) := by decide +kernel
theorem dX6_writtenByte_5 : decode cX6_writtenByte 5 = .ok (.aload_n 0, 1) := by decide +kernel
theorem dX6_writtenByte_6 : decode cX6_writtenByte 6 = .ok (.getfield 51, 3) := by decide +kernel
theorem dX6_writtenByte_9 : decode cX6_writtenByte 9 = .ok (.getfield 289, 3) := by decide +kernel
theorem dX6_writtenByte_12 : decode cX6_writtenByte 12 = .ok (.if_icmp .lt 14, 3) := by decide +kernel
theorem dX6_writtenByte_15 : decode cX6_writtenByte 15 = .ok (.new 214, 3) := by decide +kernel
theorem dX6_writtenByte_18 : decode cX6_writtenByte 18 = .ok (.dup, 1) := by decide +kernel
theorem dX6_writtenByte_19 : decode cX6_writtenByte 19 = .ok (.ldc_w 290, 3) := by decide +kernel
theorem dX6_writtenByte_22 : decode cX6_writtenByte 22 = .ok (.invokespecial 218, 3) := by decide +kernel
theorem dX6_writtenByte_25 : decode cX6_writtenByte 25 = .ok (.athrow, 1) := by decide +kernel
theorem dX6_writtenByte_26 : decode cX6_writtenByte 26 = .ok (.aload_n 0, 1) := by decide +kernel
theorem dX6_writtenByte_27 : decode cX6_writtenByte 27 = .ok (.getfield 51, 3) := by decide +kernel
theorem dX6_writtenByte_30 : decode cX6_writtenByte 30 = .ok (.getfield 292, 3) := by decide +kernel
theorem dX6_writtenByte_33 : decode cX6_writtenByte 33 = .ok (.iload_n 1, 1) := by decide +kernel
theorem dX6_writtenByte_34 : decode cX6_writtenByte 34 = .ok (.baload, 1) := by decide +kernel
theorem dX6_writtenByte_35 : decode cX6_writtenByte 35 = .ok (.ireturn, 1) := by decide +kernel
theorem eX6_writtenByte {W : zWd} {L : List Int} {i : Int} {Q : Option Value → zWd → Prop} {X : zX} (hL : zWt W L) (hl : L.length ≤ 300) (hz : zR i) (hq : 0 ≤ i → i < L.length → Q (some (zI (L.getD i.toNat 0))) W) (hx : ¬ (0 ≤ i ∧ i < L.length) → X "java/lang/IndexOutOfBoundsException" W) : Ev MX6_writtenByte 7 1 W [.ref 96, zI i] Q X := by
  refine ev_of (ls := [.ref 96, zI i]) (by decide) rfl (fun _ => rfl) (fun _ => Nat.le_of_ble_eq_true rfl) (Or.inr (by decide)) ?_
  refine rr_iload_n (pc := 0) dX6_writtenByte_0 rfl ?_
  refine rr_if_lt (pc := 1) (tgt := 15) dX6_writtenByte_1 (by decide) hz (fun h1 => ?_) (fun h1 => ?_)
  · exact rr_thr (by decide) tX6_writtenByte_15 (hx (by omega))
  · refine rr_iload_n (pc := 4) dX6_writtenByte_4 rfl ?_
    refine rr_aload_n (pc := 5) dX6_writtenByte_5 rfl ?_
    refine rr_getR (pc := 6) dX6_writtenByte_6 fX6_51 zk_96 zr_96_7 ?_
    refine rr_getI (pc := 9) (ji := 1) dX6_writtenByte_9 fX6_289 zk_114 zr_114_1 rfl ?_
    rw [hL.1]
    refine rr_icmp_lt (pc := 12) (tgt := 26) dX6_writtenByte_12 (by decide) hz (by unfold zR; omega) (fun h12 => ?_) (fun h12 => ?_)
    · refine rr_aload_n (pc := 26) dX6_writtenByte_26 rfl ?_
      refine rr_getR (pc := 27) dX6_writtenByte_27 fX6_51 zk_96 zr_96_7 ?_
      refine rr_getR (pc := 30) dX6_writtenByte_30 fX6_292 zk_114 zr_114_0 ?_
      refine rr_iload_n (pc := 33) dX6_writtenByte_33 rfl ?_
      refine rr_bald (pc := 34) dX6_writtenByte_34 zk_115 (by omega) (by omega) ?_
      exact rr_reti (pc := 35) dX6_writtenByte_35 rfl rfl (by rw [← hL.2 i.toNat (by omega), show ((i.toNat : Nat) : Int) = i by omega]) rfl (hq (by omega) (by omega))
    · exact rr_thr (by decide) tX6_writtenByte_15 (hx (by omega))
theorem dX6_errorPosition_0 : decode cX6_errorPosition 0 = .ok (.aload_n 0, 1) := by decide +kernel
theorem dX6_errorPosition_1 : decode cX6_errorPosition 1 = .ok (.getfield 44, 3) := by decide +kernel
theorem dX6_errorPosition_4 : decode cX6_errorPosition 4 = .ok (.getfield 100, 3) := by decide +kernel
theorem dX6_errorPosition_7 : decode cX6_errorPosition 7 = .ok (.ireturn, 1) := by decide +kernel
theorem eX6_errorPosition {W : zWd} {Q : Option Value → zWd → Prop} {X : zX} (hq : Q (some (zI (W 112 6))) W) : Ev MX6_errorPosition 0 0 W [.ref 96] Q X := by
  refine ev_of (ls := [.ref 96]) (by decide) rfl (fun _ => rfl) (fun _ => Nat.le_of_ble_eq_true rfl) (Or.inl rfl) ?_
  refine rr_aload_n (pc := 0) dX6_errorPosition_0 rfl ?_
  refine rr_getR (pc := 1) dX6_errorPosition_1 fX6_44 zk_96 zr_96_6 ?_
  refine rr_getI (pc := 4) (ji := 6) dX6_errorPosition_4 fX6_100 zk_112 zr_112_6 rfl ?_
  exact rr_reti (pc := 7) dX6_errorPosition_7 rfl rfl rfl rfl (hq)
/-- the saved courts -/
def zSv (W : zWd) (B : Int → Prop) (S : Int → (Int → Int)) : Prop := ∀ i : Int, 0 ≤ i → i < 2 → (W 111 i = 0 ∧ ¬ B i) ∨ (W 111 i = 1 ∧ B i ∧ zCR W (80 + 8 * i.toNat) (S i))
theorem zSv.off {W W' : zWd} {B : Int → Prop} {S : Int → (Int → Int)} (h : zSv W B S) (o : zOffC W W') : zSv W' B S := by
  intro i h0 h1
  rw [o 111 (by omega) (by omega) (by omega)]
  exact (h i h0 h1).imp_right (fun z => ⟨z.1, z.2.1, CR_off z.2.2 (fun k g1 g2 => o k (by omega) (by omega) (by omega))⟩)
def zOffs (W W' : zWd) : Prop := ∀ k : Nat, (k < 80 ∨ 96 ≤ k) → k ≠ 111 → W' k = W k
theorem dX6_save_0 : decode cX6_save 0 = .ok (.iload_n 1, 1) := by decide +kernel
theorem dX6_save_1 : decode cX6_save 1 = .ok (.invokestatic 281, 3) := by decide +kernel
theorem dX6_save_4 : decode cX6_save 4 = .ok (.aload_n 0, 1) := by decide +kernel
theorem dX6_save_5 : decode cX6_save 5 = .ok (.getfield 33, 3) := by decide +kernel
theorem dX6_save_8 : decode cX6_save 8 = .ok (.iload_n 1, 1) := by decide +kernel
theorem dX6_save_9 : decode cX6_save 9 = .ok (.aaload, 1) := by decide +kernel
theorem dX6_save_10 : decode cX6_save 10 = .ok (.aload_n 0, 1) := by decide +kernel
theorem dX6_save_11 : decode cX6_save 11 = .ok (.getfield 12, 3) := by decide +kernel
theorem dX6_save_14 : decode cX6_save 14 = .ok (.invokevirtual 94, 3) := by decide +kernel
theorem dX6_save_17 : decode cX6_save 17 = .ok (.aload_n 0, 1) := by decide +kernel
theorem dX6_save_18 : decode cX6_save 18 = .ok (.getfield 37, 3) := by decide +kernel
theorem dX6_save_21 : decode cX6_save 21 = .ok (.iload_n 1, 1) := by decide +kernel
theorem dX6_save_22 : decode cX6_save 22 = .ok (.iconst 1, 1) := by decide +kernel
theorem dX6_save_23 : decode cX6_save 23 = .ok (.bastore, 1) := by decide +kernel
theorem dX6_save_24 : decode cX6_save 24 = .ok (.return_, 1) := by decide +kernel
theorem eX6_save {W : zWd} {a : Int → Int} {T s : Int} {B : Int → Prop} {S : Int → (Int → Int)} {Q : Option Value → zWd → Prop} {X : zX} (hR : zCR W 0 a) (hw : zWf T a) (hS : zSv W B S) (hz : zR s) (hq : 0 ≤ s → s < 2 → ∀ W' : zWd, zOffs W W' → zSv W' (fun i => i = s ∨ B i) (fun i => if i = s then a else S i) → Q none W') (hx : ¬ (0 ≤ s ∧ s < 2) → X "java/lang/IndexOutOfBoundsException" W) : Ev MX6_save 8 1 W [.ref 96, zI s] Q X := by
  refine ev_of (ls := [.ref 96, zI s]) (by decide) rfl (fun _ => rfl) (fun _ => Nat.le_of_ble_eq_true rfl) (Or.inr (by decide)) ?_
  obtain ⟨r0, r1, r2, r3, r4, r5, r6, r7, rF, rS, rP, rB⟩ := id hR
  obtain ⟨w0, w0', wW, w1, w2, w2', w3, w3', w4, w4', w5, w5', w6, w6', w7, w7', wS, wP, wT⟩ := id hw
  have wq := zWf.sq hw
  refine rr_iload_n (pc := 0) dX6_save_0 rfl ?_
  refine rr_sta (M' := MX6_checkSlot) (As := [_]) (t' := 1) (pc := 1) dX6_save_1 lX6_281 kX6_checkSlot sX6_checkSlot (by decide) (by decide) (by decide) (Nat.le_of_ble_eq_true rfl) rfl (eX6_checkSlot hz (fun j0 j1 => ?_) hx)
  refine rr_aload_n (pc := 4) dX6_save_4 rfl ?_
  refine rr_getR (pc := 5) dX6_save_5 fX6_33 zk_96 zr_96_4 ?_
  refine rr_iload_n (pc := 8) dX6_save_8 rfl ?_
  refine rr_aald (pc := 9) dX6_save_9 zk_110 (by omega) (by omega) (zr_110 j0 j1) ?_
  refine rr_aload_n (pc := 10) dX6_save_10 rfl ?_
  refine rr_getR (pc := 11) dX6_save_11 fX6_12 zk_96 zr_96_0 ?_
  refine rr_invN (M' := MX0_copyFrom) (k := (80 + 8 * s.toNat)) (As := [_]) (pc := 14) dX6_save_14 lX6_94 kX0_copyFrom vX0_copyFrom (zCt_s j0 j1).k (by decide) rfl (by decide) (by decide) (Nat.le_of_ble_eq_true rfl) rfl (eX0_copyFrom (zCt_s j0 j1) zCt_0 (by omega) rB (fun W0 o0 c0 => ?_))
  have c0 := c0 a (by omega) hR
  refine rr_aload_n (pc := 17) dX6_save_17 rfl ?_
  refine rr_getR (pc := 18) dX6_save_18 fX6_37 zk_96 zr_96_5 ?_
  refine rr_iload_n (pc := 21) dX6_save_21 rfl ?_
  refine rr_iconst (n := 1) dX6_save_22 ?_
  refine rr_zast1 (pc := 23) dX6_save_23 zk_111 (by omega) (by omega) ?_
  have hs9 : zSv (zup W0 111 s 1) (fun i => i = s ∨ B i) (fun i => if i = s then a else S i) := by
    intro i g0 g1
    by_cases q : i = s
    · subst q
      refine Or.inr ⟨zup_s, Or.inl rfl, ?_⟩
      show zCR _ _ (if i = i then a else S i)
      rw [if_pos rfl]
      exact CR_off c0 (fun k g1 g2 => zup_other k (by omega))
    · rw [zup_i q, o0 111 (by omega)]
      show _ ∨ (_ ∧ _ ∧ zCR _ _ (if i = s then a else S i))
      rw [if_neg q]
      rcases hS i g0 g1 with z | z
      · exact Or.inl ⟨z.1, fun y => y.elim q z.2⟩
      · exact Or.inr ⟨z.1, Or.inr z.2.1, CR_off z.2.2 (fun k g1 g2 => by rw [zup_other k (by omega)]; exact o0 k (by omega))⟩
  exact rr_retv (pc := 24) dX6_save_24 rfl rfl (hq j0 j1 _ (fun k g1 g2 => by rw [zup_other k g2]; exact o0 k (by omega)) hs9)
theorem dX6_restore_0 : decode cX6_restore 0 = .ok (.iload_n 1, 1) := by decide +kernel
theorem dX6_restore_1 : decode cX6_restore 1 = .ok (.invokestatic 281, 3) := by decide +kernel
theorem dX6_restore_4 : decode cX6_restore 4 = .ok (.aload_n 0, 1) := by decide +kernel
theorem dX6_restore_5 : decode cX6_restore 5 = .ok (.getfield 37, 3) := by decide +kernel
theorem dX6_restore_8 : decode cX6_restore 8 = .ok (.iload_n 1, 1) := by decide +kernel
theorem dX6_restore_9 : decode cX6_restore 9 = .ok (.baload, 1) := by decide +kernel
theorem dX6_restore_10 : decode cX6_restore 10 = .ok (.ifCond .ne 14, 3) := by decide +kernel
theorem dX6_restore_13 : decode cX6_restore 13 = .ok (.new 73, 3) := by decide +kernel
theorem dX6_restore_16 : decode cX6_restore 16 = .ok (.dup, 1) := by decide +kernel
theorem dX6_restore_17 : decode cX6_restore 17 = .ok (.ldc_w 284, 3) := by decide +kernel
theorem dX6_restore_20 : decode cX6_restore 20 = .ok (.invokespecial 77, 3) := by decide +kernel
theorem dX6_restore_23 : decode cX6_restore 23 = .ok (.athrow, 1) := by decide +kernel
theorem dX6_restore_24 : decode cX6_restore 24 = .ok (.aload_n 0, 1) := by decide +kernel
theorem dX6_restore_25 : decode cX6_restore 25 = .ok (.getfield 29, 3) := by decide +kernel
theorem dX6_restore_28 : decode cX6_restore 28 = .ok (.aload_n 0, 1) := by decide +kernel
theorem dX6_restore_29 : decode cX6_restore 29 = .ok (.getfield 12, 3) := by decide +kernel
theorem dX6_restore_32 : decode cX6_restore 32 = .ok (.invokevirtual 90, 3) := by decide +kernel
theorem dX6_restore_35 : decode cX6_restore 35 = .ok (.aload_n 0, 1) := by decide +kernel
theorem dX6_restore_36 : decode cX6_restore 36 = .ok (.getfield 12, 3) := by decide +kernel
theorem dX6_restore_39 : decode cX6_restore 39 = .ok (.aload_n 0, 1) := by decide +kernel
theorem dX6_restore_40 : decode cX6_restore 40 = .ok (.getfield 33, 3) := by decide +kernel
theorem dX6_restore_43 : decode cX6_restore 43 = .ok (.iload_n 1, 1) := by decide +kernel
theorem dX6_restore_44 : decode cX6_restore 44 = .ok (.aaload, 1) := by decide +kernel
theorem dX6_restore_45 : decode cX6_restore 45 = .ok (.invokevirtual 94, 3) := by decide +kernel
theorem dX6_restore_48 : decode cX6_restore 48 = .ok (.aload_n 0, 1) := by decide +kernel
theorem dX6_restore_49 : decode cX6_restore 49 = .ok (.getfield 12, 3) := by decide +kernel
theorem dX6_restore_52 : decode cX6_restore 52 = .ok (.getfield 112, 3) := by decide +kernel
theorem dX6_restore_55 : decode cX6_restore 55 = .ok (.ireturn, 1) := by decide +kernel
theorem eX6_restore {W : zWd} {a : Int → Int} {T n : Int} {K : Nat → (Int → Int)} {s : Int} {B : Int → Prop} {S : Int → (Int → Int)} {Q : Option Value → zWd → Prop} {X : zX} (hR : zCR W 0 a) (hw : zWf T a) (hH : zHi W n K) (hg : zGm W) (hS : zSv W B S) (hSw : 0 ≤ s → s < 2 → B s → S s 2 ≤ 6) (hz : zR s) (hq : 0 ≤ s → s < 2 → B s → ∀ W' : zWd, zOffC W W' → zGm W' → zCR W' 0 (S s) → zHi W' (if n + 1 < 8 then n + 1 else 8) (zPush a K) → Q (some (zI (S s 4))) W') (hx : ¬ (0 ≤ s ∧ s < 2) → X "java/lang/IndexOutOfBoundsException" W) (hx2 : 0 ≤ s → s < 2 → ¬ B s → X "java/lang/IllegalStateException" W) : Ev MX6_restore 8 2 W [.ref 96, zI s] Q X := by
  refine ev_of (ls := [.ref 96, zI s]) (by decide) rfl (fun _ => rfl) (fun _ => Nat.le_of_ble_eq_true rfl) (Or.inr (by decide)) ?_
  obtain ⟨r0, r1, r2, r3, r4, r5, r6, r7, rF, rS, rP, rB⟩ := id hR
  obtain ⟨w0, w0', wW, w1, w2, w2', w3, w3', w4, w4', w5, w5', w6, w6', w7, w7', wS, wP, wT⟩ := id hw
  have wq := zWf.sq hw
  refine rr_iload_n (pc := 0) dX6_restore_0 rfl ?_
  refine rr_sta (M' := MX6_checkSlot) (As := [_]) (t' := 1) (pc := 1) dX6_restore_1 lX6_281 kX6_checkSlot sX6_checkSlot (by decide) (by decide) (by decide) (Nat.le_of_ble_eq_true rfl) rfl (eX6_checkSlot hz (fun j0 j1 => ?_) hx)
  refine rr_aload_n (pc := 4) dX6_restore_4 rfl ?_
  refine rr_getR (pc := 5) dX6_restore_5 fX6_37 zk_96 zr_96_5 ?_
  refine rr_iload_n (pc := 8) dX6_restore_8 rfl ?_
  refine rr_zald (pc := 9) dX6_restore_9 zk_111 (by omega) (by omega) ?_
  have hSs := hS s j0 j1
  refine rr_if_ne (pc := 10) (tgt := 24) dX6_restore_10 (by decide) (by rcases hSs with z | z <;> (rw [z.1]; unfold zR; omega)) (fun h10 => ?_) (fun h10 => ?_)
  · have hSt : B s ∧ zCR W (80 + 8 * s.toNat) (S s) := by
      rcases hSs with z | z
      · exact absurd z.1 h10
      · exact z.2
    refine rr_aload_n (pc := 24) dX6_restore_24 rfl ?_
    refine rr_getR (pc := 25) dX6_restore_25 fX6_29 zk_96 zr_96_3 ?_
    refine rr_aload_n (pc := 28) dX6_restore_28 rfl ?_
    refine rr_getR (pc := 29) dX6_restore_29 fX6_12 zk_96 zr_96_0 ?_
    refine rr_invN (M' := MX2_keep) (k := 108) (As := [_]) (pc := 32) dX6_restore_32 lX6_90 kX2_keep vX2_keep zk_108 (by decide) rfl (by decide) (by decide) (Nat.le_of_ble_eq_true rfl) rfl (eX2_keep hR hw hH (fun W1 o1 i1 => ?_))
    have c1 : zCR W1 0 a := CR_off hR (fun k g1 g2 => o1 k (Or.inl (by omega)) (by omega))
    have g1 := o1.g hg
    have hm1 := c1.2.2.2.2.2.2.2.2.2.2.1
    refine rr_aload_n (pc := 35) dX6_restore_35 rfl ?_
    refine rr_getR (pc := 36) dX6_restore_36 fX6_12 zk_96 zr_96_0 ?_
    refine rr_aload_n (pc := 39) dX6_restore_39 rfl ?_
    refine rr_getR (pc := 40) dX6_restore_40 fX6_33 zk_96 zr_96_4 ?_
    refine rr_iload_n (pc := 43) dX6_restore_43 rfl ?_
    refine rr_aald (pc := 44) dX6_restore_44 zk_110 (by omega) (by omega) (zr_110 j0 j1) ?_
    have c2 : zCR W1 (80 + 8 * s.toNat) (S s) := CR_off hSt.2 (fun k g1 g2 => o1 k (by omega) (by omega))
    refine rr_invN (M' := MX0_copyFrom) (k := 0) (As := [_]) (pc := 45) dX6_restore_45 lX6_94 kX0_copyFrom vX0_copyFrom zCt_0.k (by decide) rfl (by decide) (by decide) (Nat.le_of_ble_eq_true rfl) rfl (eX0_copyFrom zCt_0 (zCt_s j0 j1) (by omega) c2.2.2.2.2.2.2.2.2.2.2.2 (fun W2 o2 c3 => ?_))
    have c3 := c3 (S s) (hSw j0 j1 hSt.1) c2
    refine rr_aload_n (pc := 48) dX6_restore_48 rfl ?_
    refine rr_getR (pc := 49) dX6_restore_49 fX6_12 zk_96 zr_96_0 ?_
    refine rr_getI (pc := 52) (ji := 4) dX6_restore_52 fX6_112 zCt_0.k zCt_0.i4 rfl ?_
    rw [c3.2.2.2.2.1]
    exact rr_reti (pc := 55) dX6_restore_55 rfl rfl rfl rfl (hq j0 j1 hSt.1 W2 (o1.C.tr (o2.C (by omega))) (g1.c zCt_0 o2) c3 (i1.c0 o2))
  · exact rr_thr (by decide) tX6_restore_13 (hx2 j0 j1 (by rcases hSs with z | z; exact z.2; exact absurd h10 (by rw [z.1]; omega)))
