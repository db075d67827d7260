/-- the history: n courts, K 0 the latest -/
def zPl (nx : Int) (j : Nat) : Nat := 16 + 8 * ((nx + 7 - j) % 8).toNat
def zHi (W : zWd) (n : Int) (K : Nat → (Int → Int)) : Prop := W 108 2 = n ∧ 0 ≤ n ∧ n ≤ 8 ∧ 0 ≤ W 108 1 ∧ W 108 1 < 8 ∧ ∀ j : Nat, (j : Int) < n → zCR W (zPl (W 108 1) j) (K j)
def zPush (a : Int → Int) (K : Nat → (Int → Int)) : Nat → (Int → Int) := fun j => if j = 0 then a else K (j - 1)
def zOffC (W W' : zWd) : Prop := ∀ k : Nat, (80 ≤ k ∨ (8 ≤ k ∧ k < 16)) → k ≠ 108 → (k < 98 ∨ 108 ≤ k) → W' k = W k
theorem zOffC.rf {W : zWd} : zOffC W W := fun _ _ _ _ => rfl
theorem zOffC.tr {W W' W'' : zWd} (h : zOffC W W') (h2 : zOffC W' W'') : zOffC W W'' := fun k g1 g2 g3 => (h2 k g1 g2 g3).trans (h k g1 g2 g3)
theorem zOff.C {c : Nat} {W W' : zWd} (h : zOff c W W') (hc : c + 8 ≤ 80 ∧ (c + 8 ≤ 8 ∨ 16 ≤ c)) : zOffC W W' := fun k g1 _ _ => h k (by omega)
theorem zOffp.C {c : Nat} {W W' : zWd} (h : zOffp c W W') (hc : c + 8 ≤ 80 ∧ (c + 8 ≤ 8 ∨ 16 ≤ c)) : zOffC W W' := fun k g1 _ g3 => h k (by omega) g3
theorem zOffg.C {W W' : zWd} (h : zOffg W W') : zOffC W W' := fun k _ _ g3 => h k g3
def zOffh (W W' : zWd) : Prop := ∀ k : Nat, (k < 16 ∨ 80 ≤ k) → k ≠ 108 → W' k = W k
theorem zOffh.C {W W' : zWd} (h : zOffh W W') : zOffC W W' := fun k g1 g2 _ => h k (by omega) g2
theorem zOffh.g {W W' : zWd} (h : zOffh W W') (hg : zGm W) : zGm W' := ⟨by rw [h 98 (by omega) (by omega)]; exact hg.1, by rw [h 103 (by omega) (by omega)]; exact hg.2⟩
theorem zPl_lt {nx : Int} {j : Nat} : 16 ≤ zPl nx j ∧ zPl nx j + 8 ≤ 80 := by unfold zPl; omega
theorem zPl_ct {nx : Int} {j : Nat} : zCt (zPl nx j) := ⟨2 + ((nx + 7 - j) % 8).toNat, by omega, by unfold zPl; omega⟩
theorem zHi.off {W W' : zWd} {n : Int} {K : Nat → (Int → Int)} (h : zHi W n K) (hW : ∀ k : Nat, 16 ≤ k → k < 80 → W' k = W k) (h8 : W' 108 = W 108) : zHi W' n K := by
  obtain ⟨h1, h2, h3, h4, h5, h6⟩ := h
  unfold zHi
  rw [h8]
  exact ⟨h1, h2, h3, h4, h5, fun j hj => CR_off (h6 j hj) (fun k g1 g2 => hW k (by have := @zPl_lt (W 108 1) j; omega) (by have := @zPl_lt (W 108 1) j; omega))⟩
theorem zHi.c0 {W W' : zWd} {n : Int} {K : Nat → (Int → Int)} (h : zHi W n K) (o : zOff 0 W W') : zHi W' n K := h.off (fun k g1 _ => o k (by omega)) (o 108 (by omega))
theorem zHi.p {c : Nat} {W W' : zWd} {n : Int} {K : Nat → (Int → Int)} (h : zHi W n K) (o : zOffp c W W') (hc : c + 8 ≤ 16) : zHi W' n K := h.off (fun k g1 _ => o k (by omega) (by omega)) (o 108 (by omega) (by omega))
/-- a court is kept -/
theorem zHi.push {W W' : zWd} {n : Int} {K : Nat → (Int → Int)} {a : Int → Int} (h : zHi W n K) (h0 : zCR W' (16 + 8 * (W 108 1).toNat) a)
    (hW : ∀ k : Nat, (k < 16 + 8 * (W 108 1).toNat ∨ 16 + 8 * (W 108 1).toNat + 8 ≤ k) → k < 80 → W' k = W k) (e1 : W' 108 1 = if W 108 1 + 1 < 8 then W 108 1 + 1 else 0) (e2 : W' 108 2 = if n + 1 < 8 then n + 1 else 8) : zHi W' (if n + 1 < 8 then n + 1 else 8) (zPush a K) := by
  obtain ⟨h1, h2, h3, h4, h5, h6⟩ := h
  refine ⟨e2, by split <;> omega, by split <;> omega, by rw [e1]; split <;> omega, by rw [e1]; split <;> omega, fun j hj => ?_⟩
  by_cases q : j = 0
  · subst q
    have e : zPl (W' 108 1) 0 = 16 + 8 * (W 108 1).toNat := by unfold zPl; rw [e1]; split <;> omega
    rw [e]
    exact h0
  · have e : zPl (W' 108 1) j = zPl (W 108 1) (j - 1) := by unfold zPl; rw [e1]; split <;> omega
    have hj2 : ((j - 1 : Nat) : Int) < n := by revert hj; split <;> intro hj <;> omega
    have hj7 : j ≤ 7 := by revert hj; split <;> intro hj <;> omega
    have hne : zPl (W 108 1) (j - 1) + 8 ≤ 16 + 8 * (W 108 1).toNat ∨ 16 + 8 * (W 108 1).toNat + 8 ≤ zPl (W 108 1) (j - 1) := by unfold zPl; omega
    rw [e]
    show zCR W' _ (if j = 0 then a else K (j - 1))
    rw [if_neg q]
    exact CR_off (h6 (j - 1) hj2) (fun k g1 g2 => hW k (by omega) (by have := @zPl_lt (W 108 1) (j - 1); omega))
theorem dX2_keep_0 : decode cX2_keep 0 = .ok (.aload_n 0, 1) := by decide +kernel
theorem dX2_keep_1 : decode cX2_keep 1 = .ok (.getfield 11, 3) := by decide +kernel
theorem dX2_keep_4 : decode cX2_keep 4 = .ok (.aload_n 0, 1) := by decide +kernel
theorem dX2_keep_5 : decode cX2_keep 5 = .ok (.getfield 18, 3) := by decide +kernel
theorem dX2_keep_8 : decode cX2_keep 8 = .ok (.aaload, 1) := by decide +kernel
theorem dX2_keep_9 : decode cX2_keep 9 = .ok (.aload_n 1, 1) := by decide +kernel
theorem dX2_keep_10 : decode cX2_keep 10 = .ok (.invokevirtual 22, 3) := by decide +kernel
theorem dX2_keep_13 : decode cX2_keep 13 = .ok (.aload_n 0, 1) := by decide +kernel
theorem dX2_keep_14 : decode cX2_keep 14 = .ok (.aload_n 0, 1) := by decide +kernel
theorem dX2_keep_15 : decode cX2_keep 15 = .ok (.getfield 18, 3) := by decide +kernel
theorem dX2_keep_18 : decode cX2_keep 18 = .ok (.iconst 1, 1) := by decide +kernel
theorem dX2_keep_19 : decode cX2_keep 19 = .ok (.iadd, 1) := by decide +kernel
theorem dX2_keep_20 : decode cX2_keep 20 = .ok (.bipush 8, 2) := by decide +kernel
theorem dX2_keep_22 : decode cX2_keep 22 = .ok (.if_icmp .ge 12, 3) := by decide +kernel
theorem dX2_keep_25 : decode cX2_keep 25 = .ok (.aload_n 0, 1) := by decide +kernel
theorem dX2_keep_26 : decode cX2_keep 26 = .ok (.getfield 18, 3) := by decide +kernel
theorem dX2_keep_29 : decode cX2_keep 29 = .ok (.iconst 1, 1) := by decide +kernel
theorem dX2_keep_30 : decode cX2_keep 30 = .ok (.iadd, 1) := by decide +kernel
theorem dX2_keep_31 : decode cX2_keep 31 = .ok (.goto 4, 3) := by decide +kernel
theorem dX2_keep_34 : decode cX2_keep 34 = .ok (.iconst 0, 1) := by decide +kernel
theorem dX2_keep_35 : decode cX2_keep 35 = .ok (.putfield 18, 3) := by decide +kernel
theorem dX2_keep_38 : decode cX2_keep 38 = .ok (.aload_n 0, 1) := by decide +kernel
theorem dX2_keep_39 : decode cX2_keep 39 = .ok (.bipush 8, 2) := by decide +kernel
theorem dX2_keep_41 : decode cX2_keep 41 = .ok (.aload_n 0, 1) := by decide +kernel
theorem dX2_keep_42 : decode cX2_keep 42 = .ok (.getfield 26, 3) := by decide +kernel
theorem dX2_keep_45 : decode cX2_keep 45 = .ok (.iconst 1, 1) := by decide +kernel
theorem dX2_keep_46 : decode cX2_keep 46 = .ok (.iadd, 1) := by decide +kernel
theorem dX2_keep_47 : decode cX2_keep 47 = .ok (.invokestatic 29, 3) := by decide +kernel
theorem dX2_keep_50 : decode cX2_keep 50 = .ok (.putfield 26, 3) := by decide +kernel
theorem dX2_keep_53 : decode cX2_keep 53 = .ok (.return_, 1) := by decide +kernel
theorem eX2_keep {W : zWd} {a : Int → Int} {T n : Int} {K : Nat → (Int → Int)}  {Q : Option Value → zWd → Prop} {X : zX} (hR : zCR W 0 a) (hw : zWf T a) (hH : zHi W n K) (hq : ∀ W' : zWd, zOffh W W' → zHi W' (if n + 1 < 8 then n + 1 else 8) (zPush a K) → Q none W') : Ev MX2_keep 2 0 W [.ref 108, .ref 0] Q X := by
  refine ev_of (ls := [.ref 108, .ref 0]) (by decide) rfl (fun _ => rfl) (fun _ => Nat.le_of_ble_eq_true rfl) (Or.inl rfl) ?_
  obtain ⟨r0, r1, r2, r3, r4, r5, r6, r7, rF, rS, rP, rB⟩ := id hR
  obtain ⟨w0, w0', wW, w1, w2, w2', w3, w3', w4, w4', w5, w5', w6, w6', w7, w7', wS, wP, wT⟩ := id hw
  have wq := zWf.sq hw
  obtain ⟨h1, h2, h3, h4, h5, h6⟩ := id hH
  refine rr_aload_n (pc := 0) dX2_keep_0 rfl ?_
  refine rr_getR (pc := 1) dX2_keep_1 fX2_11 zk_108 zr_108_0 ?_
  refine rr_aload_n (pc := 4) dX2_keep_4 rfl ?_
  refine rr_getI (pc := 5) (ji := 1) dX2_keep_5 fX2_18 zk_108 zr_108_1 rfl ?_
  refine rr_aald (pc := 8) dX2_keep_8 zk_109 (by omega) (by omega) (zr_109 h4 h5) ?_
  refine rr_aload_n (pc := 9) dX2_keep_9 rfl ?_
  refine rr_invN (M' := MX0_copyFrom) (k := (16 + 8 * (W 108 1).toNat)) (As := [_]) (pc := 10) dX2_keep_10 lX2_22 kX0_copyFrom vX0_copyFrom (zCt_h h4 h5).k (by decide) rfl (by decide) (by decide) (Nat.le_of_ble_eq_true rfl) rfl (eX0_copyFrom (zCt_h h4 h5) zCt_0 (by omega) rB (fun W0 o0 c0 => ?_))
  have c0 := c0 a (by omega) hR
  have z8 : W0 108 = W 108 := o0 108 (by omega)
  have z81 : W0 108 1 = W 108 1 := by rw [z8]
  have z82 : W0 108 2 = n := by rw [z8]; exact h1
  refine rr_aload_n (pc := 13) dX2_keep_13 rfl ?_
  refine rr_aload_n (pc := 14) dX2_keep_14 rfl ?_
  refine rr_getI (pc := 15) (ji := 1) dX2_keep_15 fX2_18 zk_108 zr_108_1 rfl ?_
  rw [z81]
  refine rr_iconst (n := 1) dX2_keep_18 ?_
  refine rr_iadd (pc := 19) dX2_keep_19 ?_
  refine rr_bipush (n := (8)) dX2_keep_20 ?_
  refine rr_icmp_ge (pc := 22) (tgt := 34) dX2_keep_22 (by decide) (by unfold zR; omega) (by unfold zR; omega) (fun h22 => ?_) (fun h22 => ?_)
  · refine rr_iconst (n := 0) dX2_keep_34 ?_
    refine rr_put (pc := 35) (ji := 1) dX2_keep_35 fX2_18 fp_2_1 zk_108 zr_108_1 rfl ?_
    refine rr_aload_n (pc := 38) dX2_keep_38 rfl ?_
    refine rr_bipush (n := (8)) dX2_keep_39 ?_
    refine rr_aload_n (pc := 41) dX2_keep_41 rfl ?_
    refine rr_getI (pc := 42) (ji := 2) dX2_keep_42 fX2_26 zk_108 zr_108_2 rfl ?_
    rw [zup_i (show (2 : Int) ≠ 1 by decide), z82]
    refine rr_iconst (n := 1) dX2_keep_45 ?_
    refine rr_iadd (pc := 46) dX2_keep_46 ?_
    refine rr_min (pc := 47) dX2_keep_47 lX2_29 z_mmin (by unfold zR; omega) (by unfold zR; omega) (by decide) (Nat.le_of_ble_eq_true rfl) ?_
    refine rr_put (pc := 50) (ji := 2) dX2_keep_50 fX2_26 fp_2_2 zk_108 zr_108_2 rfl ?_
    exact rr_retv (pc := 53) dX2_keep_53 rfl rfl (hq _ (fun k g1 g2 => by rw [zup_other k g2, zup_other k g2]; exact o0 k (by omega)) (hH.push (CR_off c0 (fun k g1 g2 => by rw [zup_other k (by omega), zup_other k (by omega)])) (fun k g1 g2 => by rw [zup_other k (by omega), zup_other k (by omega)]; exact o0 k g1) (by rw [zup_i (by decide), zup_s, if_neg (by omega)]) zup_s))
  · refine rr_aload_n (pc := 25) dX2_keep_25 rfl ?_
    refine rr_getI (pc := 26) (ji := 1) dX2_keep_26 fX2_18 zk_108 zr_108_1 rfl ?_
    rw [z81]
    refine rr_iconst (n := 1) dX2_keep_29 ?_
    refine rr_iadd (pc := 30) dX2_keep_30 ?_
    refine rr_goto (pc := 31) (tgt := 35) dX2_keep_31 (by decide) ?_
    refine rr_put (pc := 35) (ji := 1) dX2_keep_35 fX2_18 fp_2_1 zk_108 zr_108_1 rfl ?_
    refine rr_aload_n (pc := 38) dX2_keep_38 rfl ?_
    refine rr_bipush (n := (8)) dX2_keep_39 ?_
    refine rr_aload_n (pc := 41) dX2_keep_41 rfl ?_
    refine rr_getI (pc := 42) (ji := 2) dX2_keep_42 fX2_26 zk_108 zr_108_2 rfl ?_
    rw [zup_i (show (2 : Int) ≠ 1 by decide), z82]
    refine rr_iconst (n := 1) dX2_keep_45 ?_
    refine rr_iadd (pc := 46) dX2_keep_46 ?_
    refine rr_min (pc := 47) dX2_keep_47 lX2_29 z_mmin (by unfold zR; omega) (by unfold zR; omega) (by decide) (Nat.le_of_ble_eq_true rfl) ?_
    refine rr_put (pc := 50) (ji := 2) dX2_keep_50 fX2_26 fp_2_2 zk_108 zr_108_2 rfl ?_
    exact rr_retv (pc := 53) dX2_keep_53 rfl rfl (hq _ (fun k g1 g2 => by rw [zup_other k g2, zup_other k g2]; exact o0 k (by omega)) (hH.push (CR_off c0 (fun k g1 g2 => by rw [zup_other k (by omega), zup_other k (by omega)])) (fun k g1 g2 => by rw [zup_other k (by omega), zup_other k (by omega)]; exact o0 k g1) (by rw [zup_i (by decide), zup_s, if_pos (by omega)]) zup_s))
theorem zHi.pop {W W' : zWd} {n : Int} {K : Nat → (Int → Int)} (h : zHi W n K) (hn : 0 < n) (hW : ∀ k : Nat, 16 ≤ k → k < 80 → W' k = W k) (e1 : W' 108 1 = if 0 < W 108 1 then W 108 1 - 1 else 7) (e2 : W' 108 2 = n - 1) : zHi W' (n - 1) (fun j => K (j + 1)) ∧ zPl (W 108 1) 0 = 16 + 8 * (W' 108 1).toNat := by
  obtain ⟨h1, h2, h3, h4, h5, h6⟩ := h
  refine ⟨⟨e2, by omega, by omega, by rw [e1]; split <;> omega, by rw [e1]; split <;> omega, fun j hj => ?_⟩, by unfold zPl; rw [e1]; split <;> omega⟩
  have e : zPl (W' 108 1) j = zPl (W 108 1) (j + 1) := by unfold zPl; rw [e1]; split <;> omega
  rw [e]
  exact CR_off (h6 (j + 1) (by omega)) (fun k g1 g2 => hW k (by have := @zPl_lt (W 108 1) (j + 1); omega) (by have := @zPl_lt (W 108 1) (j + 1); omega))
theorem dX2_bringBack_0 : decode cX2_bringBack 0 = .ok (.aload_n 0, 1) := by decide +kernel
theorem dX2_bringBack_1 : decode cX2_bringBack 1 = .ok (.aload_n 0, 1) := by decide +kernel
theorem dX2_bringBack_2 : decode cX2_bringBack 2 = .ok (.getfield 18, 3) := by decide +kernel
theorem dX2_bringBack_5 : decode cX2_bringBack 5 = .ok (.ifCond .le 12, 3) := by decide +kernel
theorem dX2_bringBack_8 : decode cX2_bringBack 8 = .ok (.aload_n 0, 1) := by decide +kernel
theorem dX2_bringBack_9 : decode cX2_bringBack 9 = .ok (.getfield 18, 3) := by decide +kernel
theorem dX2_bringBack_12 : decode cX2_bringBack 12 = .ok (.iconst 1, 1) := by decide +kernel
theorem dX2_bringBack_13 : decode cX2_bringBack 13 = .ok (.isub, 1) := by decide +kernel
theorem dX2_bringBack_14 : decode cX2_bringBack 14 = .ok (.goto 5, 3) := by decide +kernel
theorem dX2_bringBack_17 : decode cX2_bringBack 17 = .ok (.bipush 7, 2) := by decide +kernel
theorem dX2_bringBack_19 : decode cX2_bringBack 19 = .ok (.putfield 18, 3) := by decide +kernel
theorem dX2_bringBack_22 : decode cX2_bringBack 22 = .ok (.aload_n 0, 1) := by decide +kernel
theorem dX2_bringBack_23 : decode cX2_bringBack 23 = .ok (.dup, 1) := by decide +kernel
theorem dX2_bringBack_24 : decode cX2_bringBack 24 = .ok (.getfield 26, 3) := by decide +kernel
theorem dX2_bringBack_27 : decode cX2_bringBack 27 = .ok (.iconst 1, 1) := by decide +kernel
theorem dX2_bringBack_28 : decode cX2_bringBack 28 = .ok (.isub, 1) := by decide +kernel
theorem dX2_bringBack_29 : decode cX2_bringBack 29 = .ok (.putfield 26, 3) := by decide +kernel
theorem dX2_bringBack_32 : decode cX2_bringBack 32 = .ok (.aload_n 1, 1) := by decide +kernel
theorem dX2_bringBack_33 : decode cX2_bringBack 33 = .ok (.aload_n 0, 1) := by decide +kernel
theorem dX2_bringBack_34 : decode cX2_bringBack 34 = .ok (.getfield 11, 3) := by decide +kernel
theorem dX2_bringBack_37 : decode cX2_bringBack 37 = .ok (.aload_n 0, 1) := by decide +kernel
theorem dX2_bringBack_38 : decode cX2_bringBack 38 = .ok (.getfield 18, 3) := by decide +kernel
theorem dX2_bringBack_41 : decode cX2_bringBack 41 = .ok (.aaload, 1) := by decide +kernel
theorem dX2_bringBack_42 : decode cX2_bringBack 42 = .ok (.invokevirtual 22, 3) := by decide +kernel
theorem dX2_bringBack_45 : decode cX2_bringBack 45 = .ok (.return_, 1) := by decide +kernel
theorem eX2_bringBack {W : zWd} {n : Int} {K : Nat → (Int → Int)}  {Q : Option Value → zWd → Prop} {X : zX} (hH : zHi W n K) (hn : 0 < n) (hK : K 0 2 ≤ 6) (hq : ∀ W' : zWd, (∀ k : Nat, 8 ≤ k → k ≠ 108 → W' k = W k) → zCR W' 0 (K 0) → zHi W' (n - 1) (fun j => K (j + 1)) → Q none W') : Ev MX2_bringBack 2 0 W [.ref 108, .ref 0] Q X := by
  refine ev_of (ls := [.ref 108, .ref 0]) (by decide) rfl (fun _ => rfl) (fun _ => Nat.le_of_ble_eq_true rfl) (Or.inl rfl) ?_
  obtain ⟨h1, h2, h3, h4, h5, h6⟩ := id hH
  refine rr_aload_n (pc := 0) dX2_bringBack_0 rfl ?_
  refine rr_aload_n (pc := 1) dX2_bringBack_1 rfl ?_
  refine rr_getI (pc := 2) (ji := 1) dX2_bringBack_2 fX2_18 zk_108 zr_108_1 rfl ?_
  refine rr_if_le (pc := 5) (tgt := 17) dX2_bringBack_5 (by decide) (by unfold zR; omega) (fun h5 => ?_) (fun h5 => ?_)
  · refine rr_bipush (n := (7)) dX2_bringBack_17 ?_
    obtain ⟨nx, hnx, n0, n8⟩ : ∃ nx : Int, nx = (if 0 < W 108 1 then W 108 1 - 1 else 7) ∧ 0 ≤ nx ∧ nx < 8 := ⟨_, rfl, by split <;> omega, by split <;> omega⟩
    refine rr_eqS (congrArg (fun z => [zI z, .ref 108]) (show (7 : Int) = nx by rw [hnx, if_neg (by omega)])) ?_
    refine rr_put (pc := 19) (ji := 1) dX2_bringBack_19 fX2_18 fp_2_1 zk_108 zr_108_1 rfl ?_
    refine rr_aload_n (pc := 22) dX2_bringBack_22 rfl ?_
    refine rr_dup_r (pc := 23) dX2_bringBack_23 ?_
    refine rr_getI (pc := 24) (ji := 2) dX2_bringBack_24 fX2_26 zk_108 zr_108_2 rfl ?_
    rw [zup_i (show (2 : Int) ≠ 1 by decide), h1]
    refine rr_iconst (n := 1) dX2_bringBack_27 ?_
    refine rr_isub (pc := 28) dX2_bringBack_28 ?_
    refine rr_put (pc := 29) (ji := 2) dX2_bringBack_29 fX2_26 fp_2_2 zk_108 zr_108_2 rfl ?_
    have e1 : zup (zup W 108 1 nx) 108 2 (n - 1) 108 1 = nx := (zup_i (by decide)).trans zup_s
    have e2 : zup (zup W 108 1 nx) 108 2 (n - 1) 108 2 = n - 1 := zup_s
    have eo : ∀ k : Nat, k ≠ 108 → zup (zup W 108 1 nx) 108 2 (n - 1) k = W k := fun k g => by rw [zup_other k g, zup_other k g]
    obtain ⟨p1, p2⟩ := hH.pop hn (fun k _ _ => eo k (by omega)) (e1.trans hnx) e2
    rw [e1] at p2
    have c9 := h6 0 (by omega)
    rw [p2] at c9
    have c9 := CR_off c9 (fun k g1 g2 => eo k (by omega))
    generalize zup (zup W 108 1 nx) 108 2 (n - 1) = W2 at e1 e2 eo p1 c9 ⊢
    refine rr_aload_n (pc := 32) dX2_bringBack_32 rfl ?_
    refine rr_aload_n (pc := 33) dX2_bringBack_33 rfl ?_
    refine rr_getR (pc := 34) dX2_bringBack_34 fX2_11 zk_108 zr_108_0 ?_
    refine rr_aload_n (pc := 37) dX2_bringBack_37 rfl ?_
    refine rr_getI (pc := 38) (ji := 1) dX2_bringBack_38 fX2_18 zk_108 zr_108_1 rfl ?_
    rw [e1]
    refine rr_aald (pc := 41) dX2_bringBack_41 zk_109 (by omega) (by omega) (zr_109 n0 n8) ?_
    refine rr_invN (M' := MX0_copyFrom) (k := 0) (As := [_]) (pc := 42) dX2_bringBack_42 lX2_22 kX0_copyFrom vX0_copyFrom zCt_0.k (by decide) rfl (by decide) (by decide) (Nat.le_of_ble_eq_true rfl) rfl (eX0_copyFrom zCt_0 (zCt_h n0 n8) (by omega) c9.2.2.2.2.2.2.2.2.2.2.2 (fun W3 o3 c3 => ?_))
    exact rr_retv (pc := 45) dX2_bringBack_45 rfl rfl (hq W3 (fun k g1 g2 => (o3 k (by omega)).trans (eo k g2)) (c3 (K 0) hK c9) (p1.c0 o3))
  · refine rr_aload_n (pc := 8) dX2_bringBack_8 rfl ?_
    refine rr_getI (pc := 9) (ji := 1) dX2_bringBack_9 fX2_18 zk_108 zr_108_1 rfl ?_
    refine rr_iconst (n := 1) dX2_bringBack_12 ?_
    refine rr_isub (pc := 13) dX2_bringBack_13 ?_
    refine rr_goto (pc := 14) (tgt := 19) dX2_bringBack_14 (by decide) ?_
    obtain ⟨nx, hnx, n0, n8⟩ : ∃ nx : Int, nx = (if 0 < W 108 1 then W 108 1 - 1 else 7) ∧ 0 ≤ nx ∧ nx < 8 := ⟨_, rfl, by split <;> omega, by split <;> omega⟩
    refine rr_eqS (congrArg (fun z => [zI z, .ref 108]) (show W 108 1 - 1 = nx by rw [hnx, if_pos (by omega)])) ?_
    refine rr_put (pc := 19) (ji := 1) dX2_bringBack_19 fX2_18 fp_2_1 zk_108 zr_108_1 rfl ?_
    refine rr_aload_n (pc := 22) dX2_bringBack_22 rfl ?_
    refine rr_dup_r (pc := 23) dX2_bringBack_23 ?_
    refine rr_getI (pc := 24) (ji := 2) dX2_bringBack_24 fX2_26 zk_108 zr_108_2 rfl ?_
    rw [zup_i (show (2 : Int) ≠ 1 by decide), h1]
    refine rr_iconst (n := 1) dX2_bringBack_27 ?_
    refine rr_isub (pc := 28) dX2_bringBack_28 ?_
    refine rr_put (pc := 29) (ji := 2) dX2_bringBack_29 fX2_26 fp_2_2 zk_108 zr_108_2 rfl ?_
    have e1 : zup (zup W 108 1 nx) 108 2 (n - 1) 108 1 = nx := (zup_i (by decide)).trans zup_s
    have e2 : zup (zup W 108 1 nx) 108 2 (n - 1) 108 2 = n - 1 := zup_s
    have eo : ∀ k : Nat, k ≠ 108 → zup (zup W 108 1 nx) 108 2 (n - 1) k = W k := fun k g => by rw [zup_other k g, zup_other k g]
    obtain ⟨p1, p2⟩ := hH.pop hn (fun k _ _ => eo k (by omega)) (e1.trans hnx) e2
    rw [e1] at p2
    have c9 := h6 0 (by omega)
    rw [p2] at c9
    have c9 := CR_off c9 (fun k g1 g2 => eo k (by omega))
    generalize zup (zup W 108 1 nx) 108 2 (n - 1) = W2 at e1 e2 eo p1 c9 ⊢
    refine rr_aload_n (pc := 32) dX2_bringBack_32 rfl ?_
    refine rr_aload_n (pc := 33) dX2_bringBack_33 rfl ?_
    refine rr_getR (pc := 34) dX2_bringBack_34 fX2_11 zk_108 zr_108_0 ?_
    refine rr_aload_n (pc := 37) dX2_bringBack_37 rfl ?_
    refine rr_getI (pc := 38) (ji := 1) dX2_bringBack_38 fX2_18 zk_108 zr_108_1 rfl ?_
    rw [e1]
    refine rr_aald (pc := 41) dX2_bringBack_41 zk_109 (by omega) (by omega) (zr_109 n0 n8) ?_
    refine rr_invN (M' := MX0_copyFrom) (k := 0) (As := [_]) (pc := 42) dX2_bringBack_42 lX2_22 kX0_copyFrom vX0_copyFrom zCt_0.k (by decide) rfl (by decide) (by decide) (Nat.le_of_ble_eq_true rfl) rfl (eX0_copyFrom zCt_0 (zCt_h n0 n8) (by omega) c9.2.2.2.2.2.2.2.2.2.2.2 (fun W3 o3 c3 => ?_))
    exact rr_retv (pc := 45) dX2_bringBack_45 rfl rfl (hq W3 (fun k g1 g2 => (o3 k (by omega)).trans (eo k g2)) (c3 (K 0) hK c9) (p1.c0 o3))
