/-! WHAT IS READ: an error (code, place), or a place and a court -/
abbrev zRs : Type := (Int × Nat) ⊕ (Nat × (Int → Int))
def zOffq (W W' : zWd) : Prop := ∀ k : Nat, (k < 8 ∨ 16 ≤ k) → k ≠ 112 → W' k = W k
theorem zOffq.rf {W : zWd} : zOffq W W := fun _ _ _ => rfl
theorem zOffq.tr {W W' W'' : zWd} (h : zOffq W W') (h2 : zOffq W' W'') : zOffq W W'' := fun k g1 g2 => (h2 k g1 g2).trans (h k g1 g2)
theorem zOffr.q {W W' : zWd} (h : zOffr W W') : zOffq W W' := fun k _ g => h k g
theorem zOff.q {W W' : zWd} (h : zOff 8 W W') : zOffq W W' := fun k g1 _ => h k (by omega)
theorem zCP.by {W : zWd} {a : Int → Int} (h : zCP W 8 a) : zByt W := h.1.2.2.2.2.2.2.2.2.2.2.2
theorem zOffr.cp {W W' : zWd} {a : Int → Int} (h : zOffr W W') (hC : zCP W 8 a) : zCP W' 8 a := hC.off (fun k g1 g2 => h k (by omega))
theorem zOff.rd {W W' : zWd} {B : Nat → Int} {N p : Nat} (h : zOff 8 W W') (hR : zRd W B N p) : zRd W' B N p := by
  have e := h 112 (by omega)
  exact ⟨hR.1.off (by rw [e]) (h 113 (by omega)), by unfold zTk; rw [e]; exact hR.2⟩
/-- what a reading method comes to -/
def zRQ (W : zWd) (B : Nat → Int) (N : Nat) (r : zRs) (Q : Option Value → zWd → Prop) : Prop :=
  (∀ e, r = .inl e → ∀ W', zOffq W W' → zByt W' → W' 112 5 = e.1 → W' 112 6 = e.2 → Q (some (zI 0)) W') ∧ (∀ g, r = .inr g → ∀ W', zOffq W W' → zRd W' B N g.1 → W' 112 6 = W 112 6 → zCP W' 8 g.2 → Q (some (zI 1)) W')
theorem zRQ.e {W W' : zWd} {B : Nat → Int} {N : Nat} {r : zRs} {Q : Option Value → zWd → Prop} (h : zRQ W B N r Q) {c : Int} {p : Nat} (hr : r = .inl (c, p)) (o : zOffq W W') (b : zByt W') (e1 : W' 112 5 = c) (e2 : W' 112 6 = p) : Q (some (zI 0)) W' := h.1 _ hr W' o b e1 e2
theorem zRQ.g {W W' : zWd} {B : Nat → Int} {N : Nat} {r : zRs} {Q : Option Value → zWd → Prop} (h : zRQ W B N r Q) {p : Nat} {a : Int → Int} (hr : r = .inr (p, a)) (o : zOffq W W') (b : zRd W' B N p) (e : W' 112 6 = W 112 6) (c : zCP W' 8 a) : Q (some (zI 1)) W' := h.2 _ hr W' o b e c
/-- the rest of a reading, from a later world on -/
theorem zRQ.from {W W1 : zWd} {B : Nat → Int} {N : Nat} {r r' : zRs} {Q : Option Value → zWd → Prop} (h : zRQ W B N r Q) (hr : r = r') (o : zOffq W W1) (e : W1 112 6 = W 112 6) : zRQ W1 B N r' Q :=
  ⟨fun x hx W' o' b e1 e2 => h.1 x (hr.trans hx) W' (o.tr o') b e1 e2, fun g hg W' o' b e' c => h.2 g (hr.trans hg) W' (o.tr o') b (e'.trans e) c⟩
theorem dX3_takeWord_0 : decode cX3_takeWord 0 = .ok (.aload_n 0, 1) := by decide +kernel
theorem dX3_takeWord_1 : decode cX3_takeWord 1 = .ok (.aload_n 1, 1) := by decide +kernel
theorem dX3_takeWord_2 : decode cX3_takeWord 2 = .ok (.invokevirtual 59, 3) := by decide +kernel
theorem dX3_takeWord_5 : decode cX3_takeWord 5 = .ok (.ifCond .ne 5, 3) := by decide +kernel
theorem dX3_takeWord_8 : decode cX3_takeWord 8 = .ok (.iconst 0, 1) := by decide +kernel
theorem dX3_takeWord_9 : decode cX3_takeWord 9 = .ok (.ireturn, 1) := by decide +kernel
theorem dX3_takeWord_10 : decode cX3_takeWord 10 = .ok (.aload_n 0, 1) := by decide +kernel
theorem dX3_takeWord_11 : decode cX3_takeWord 11 = .ok (.aload_n 0, 1) := by decide +kernel
theorem dX3_takeWord_12 : decode cX3_takeWord 12 = .ok (.getfield 71, 3) := by decide +kernel
theorem dX3_takeWord_15 : decode cX3_takeWord 15 = .ok (.invokevirtual 27, 3) := by decide +kernel
theorem dX3_takeWord_18 : decode cX3_takeWord 18 = .ok (.iconst 1, 1) := by decide +kernel
theorem dX3_takeWord_19 : decode cX3_takeWord 19 = .ok (.ireturn, 1) := by decide +kernel
theorem eX3_takeWord {W : zWd} {B : Nat → Int} {N p : Nat} {i : Nat} {q : String × Nat × String × List Int} {Q : Option Value → zWd → Prop} {X : zX} (hs : zStrs[i]? = some q) (hw : zWo q) (hR : zRd W B N p) (hq0 : ¬ sW B N p q.2.2.2 = true → Q (some (zI 0)) W) (hq1 : sW B N p q.2.2.2 = true → ∀ W' : zWd, zOffr W W' → (∀ j : Int, j ≠ 2 → j ≠ 3 → W' 112 j = W 112 j) → zRd W' B N (adv B N p) → Q (some (zI 1)) W') : Ev MX3_takeWord 5 0 W [.ref 112, .ref (1000 + i)] Q X := by
  refine ev_of (ls := [.ref 112, .ref (1000 + i)]) (by decide) rfl (fun _ => rfl) (fun _ => Nat.le_of_ble_eq_true rfl) (Or.inl rfl) ?_
  refine rr_aload_n (pc := 0) dX3_takeWord_0 rfl ?_
  refine rr_aload_n (pc := 1) dX3_takeWord_1 rfl ?_
  refine rr_inv0 (M' := MX3_nextIsWord) (k := 112) (As := [_]) (pc := 2) dX3_takeWord_2 lX3_59 kX3_nextIsWord vX3_nextIsWord zk_112 (by decide) rfl (by decide) (by decide) (Nat.le_of_ble_eq_true rfl) rfl (eX3_nextIsWord hs hw hR ?_)
  refine rr_if_ne (pc := 5) (tgt := 10) dX3_takeWord_5 (by decide) (by split <;> (unfold zR; omega)) (fun h5 => ?_) (fun h5 => ?_)
  · refine rr_aload_n (pc := 10) dX3_takeWord_10 rfl ?_
    refine rr_aload_n (pc := 11) dX3_takeWord_11 rfl ?_
    refine rr_getI (pc := 12) (ji := 3) dX3_takeWord_12 fX3_71 zk_112 zr_112_3 rfl ?_
    rw [hR.2.2.1]
    refine rr_inv0 (M' := MX3_moveTo) (k := 112) (As := [_]) (pc := 15) dX3_takeWord_15 lX3_27 kX3_moveTo vX3_moveTo zk_112 (by decide) rfl (by decide) (by decide) (Nat.le_of_ble_eq_true rfl) rfl (eX3_moveTo hR.1 (sRun_rng _ _ hR.2.2.2).2 (fun W1 o1 f1 t1 k1 => ?_))
    refine rr_iconst (n := 1) dX3_takeWord_18 ?_
    exact rr_reti (pc := 19) dX3_takeWord_19 rfl rfl rfl rfl (hq1 (z_i10n h5) W1 o1 f1 ⟨t1, k1⟩)
  · refine rr_iconst (n := 0) dX3_takeWord_8 ?_
    exact rr_reti (pc := 9) dX3_takeWord_9 rfl rfl rfl rfl (hq0 (z_i10 (by omega)))
theorem dX3_takeSign_0 : decode cX3_takeSign 0 = .ok (.aload_n 0, 1) := by decide +kernel
theorem dX3_takeSign_1 : decode cX3_takeSign 1 = .ok (.getfield 50, 3) := by decide +kernel
theorem dX3_takeSign_4 : decode cX3_takeSign 4 = .ok (.aload_n 0, 1) := by decide +kernel
theorem dX3_takeSign_5 : decode cX3_takeSign 5 = .ok (.getfield 19, 3) := by decide +kernel
theorem dX3_takeSign_8 : decode cX3_takeSign 8 = .ok (.if_icmp .ge 16, 3) := by decide +kernel
theorem dX3_takeSign_11 : decode cX3_takeSign 11 = .ok (.aload_n 0, 1) := by decide +kernel
theorem dX3_takeSign_12 : decode cX3_takeSign 12 = .ok (.getfield 9, 3) := by decide +kernel
theorem dX3_takeSign_15 : decode cX3_takeSign 15 = .ok (.aload_n 0, 1) := by decide +kernel
theorem dX3_takeSign_16 : decode cX3_takeSign 16 = .ok (.getfield 50, 3) := by decide +kernel
theorem dX3_takeSign_19 : decode cX3_takeSign 19 = .ok (.baload, 1) := by decide +kernel
theorem dX3_takeSign_20 : decode cX3_takeSign 20 = .ok (.iload_n 1, 1) := by decide +kernel
theorem dX3_takeSign_21 : decode cX3_takeSign 21 = .ok (.if_icmp .eq 5, 3) := by decide +kernel
theorem dX3_takeSign_24 : decode cX3_takeSign 24 = .ok (.iconst 0, 1) := by decide +kernel
theorem dX3_takeSign_25 : decode cX3_takeSign 25 = .ok (.ireturn, 1) := by decide +kernel
theorem dX3_takeSign_26 : decode cX3_takeSign 26 = .ok (.aload_n 0, 1) := by decide +kernel
theorem dX3_takeSign_27 : decode cX3_takeSign 27 = .ok (.aload_n 0, 1) := by decide +kernel
theorem dX3_takeSign_28 : decode cX3_takeSign 28 = .ok (.getfield 50, 3) := by decide +kernel
theorem dX3_takeSign_31 : decode cX3_takeSign 31 = .ok (.iconst 1, 1) := by decide +kernel
theorem dX3_takeSign_32 : decode cX3_takeSign 32 = .ok (.iadd, 1) := by decide +kernel
theorem dX3_takeSign_33 : decode cX3_takeSign 33 = .ok (.invokevirtual 27, 3) := by decide +kernel
theorem dX3_takeSign_36 : decode cX3_takeSign 36 = .ok (.iconst 1, 1) := by decide +kernel
theorem dX3_takeSign_37 : decode cX3_takeSign 37 = .ok (.ireturn, 1) := by decide +kernel
theorem eX3_takeSign {W : zWd} {B : Nat → Int} {N p : Nat} {c : Int} {Q : Option Value → zWd → Prop} {X : zX} (h0 : 0 ≤ c) (h1 : c < 128) (hR : zRd W B N p) (hq0 : ¬ (p < N ∧ B p = c) → Q (some (zI 0)) W) (hq1 : p < N ∧ B p = c → ∀ W' : zWd, zOffr W W' → (∀ j : Int, j ≠ 2 → j ≠ 3 → W' 112 j = W 112 j) → zRd W' B N (sSk B N (p + 1)) → Q (some (zI 1)) W') : Ev MX3_takeSign 1 0 W [.ref 112, zI c] Q X := by
  refine ev_of (ls := [.ref 112, zI c]) (by decide) rfl (fun _ => rfl) (fun _ => Nat.le_of_ble_eq_true rfl) (Or.inl rfl) ?_
  have h600 := hR.1.2.1
  have hpN := hR.2.2.2
  refine rr_aload_n (pc := 0) dX3_takeSign_0 rfl ?_
  refine rr_getI (pc := 1) (ji := 2) dX3_takeSign_1 fX3_50 zk_112 zr_112_2 rfl ?_
  rw [hR.2.1]
  refine rr_aload_n (pc := 4) dX3_takeSign_4 rfl ?_
  refine rr_getI (pc := 5) (ji := 1) dX3_takeSign_5 fX3_19 zk_112 zr_112_1 rfl ?_
  rw [hR.1.1]
  refine rr_icmp_ge (pc := 8) (tgt := 24) dX3_takeSign_8 (by decide) (by unfold zR; omega) (by unfold zR; omega) (fun h8 => ?_) (fun h8 => ?_)
  · refine rr_iconst (n := 0) dX3_takeSign_24 ?_
    exact rr_reti (pc := 25) dX3_takeSign_25 rfl rfl rfl rfl (hq0 (by omega))
  · have hb := hR.1.2.2 p (by omega)
    have hbs := sB_rng hb.1 hb.2.1
    refine rr_aload_n (pc := 11) dX3_takeSign_11 rfl ?_
    refine rr_getR (pc := 12) dX3_takeSign_12 fX3_9 zk_112 zr_112_0 ?_
    refine rr_aload_n (pc := 15) dX3_takeSign_15 rfl ?_
    refine rr_getI (pc := 16) (ji := 2) dX3_takeSign_16 fX3_50 zk_112 zr_112_2 rfl ?_
    rw [hR.2.1]
    refine rr_bald (pc := 19) dX3_takeSign_19 zk_113 (by omega) (by omega) ?_
    rw [hb.2.2]
    refine rr_iload_n (pc := 20) dX3_takeSign_20 rfl ?_
    refine rr_icmp_eq (pc := 21) (tgt := 26) dX3_takeSign_21 (by decide) (by unfold zR; omega) (by unfold zR; omega) (fun h21 => ?_) (fun h21 => ?_)
    · refine rr_aload_n (pc := 26) dX3_takeSign_26 rfl ?_
      refine rr_aload_n (pc := 27) dX3_takeSign_27 rfl ?_
      refine rr_getI (pc := 28) (ji := 2) dX3_takeSign_28 fX3_50 zk_112 zr_112_2 rfl ?_
      rw [hR.2.1]
      refine rr_iconst (n := 1) dX3_takeSign_31 ?_
      refine rr_iadd (pc := 32) dX3_takeSign_32 ?_
      rw [show (p : Int) + 1 = ((p + 1 : Nat) : Int) by omega]
      refine rr_inv0 (M' := MX3_moveTo) (k := 112) (As := [_]) (pc := 33) dX3_takeSign_33 lX3_27 kX3_moveTo vX3_moveTo zk_112 (by decide) rfl (by decide) (by decide) (Nat.le_of_ble_eq_true rfl) rfl (eX3_moveTo hR.1 (by omega) (fun W1 o1 f1 t1 k1 => ?_))
      refine rr_iconst (n := 1) dX3_takeSign_36 ?_
      exact rr_reti (pc := 37) dX3_takeSign_37 rfl rfl rfl rfl (hq1 ⟨by omega, (sB_eq hb.1 hb.2.1 h0 h1).mp h21⟩ W1 o1 f1 ⟨t1, k1⟩)
    · refine rr_iconst (n := 0) dX3_takeSign_24 ?_
      exact rr_reti (pc := 25) dX3_takeSign_25 rfl rfl rfl rfl (hq0 (fun z => h21 ((sB_eq hb.1 hb.2.1 h0 h1).mpr z.2)))
theorem dX3_fail_0 : decode cX3_fail 0 = .ok (.aload_n 0, 1) := by decide +kernel
theorem dX3_fail_1 : decode cX3_fail 1 = .ok (.iload_n 1, 1) := by decide +kernel
theorem dX3_fail_2 : decode cX3_fail 2 = .ok (.putfield 158, 3) := by decide +kernel
theorem dX3_fail_5 : decode cX3_fail 5 = .ok (.aload_n 0, 1) := by decide +kernel
theorem dX3_fail_6 : decode cX3_fail 6 = .ok (.iload_n 2, 1) := by decide +kernel
theorem dX3_fail_7 : decode cX3_fail 7 = .ok (.putfield 15, 3) := by decide +kernel
theorem dX3_fail_10 : decode cX3_fail 10 = .ok (.iconst 0, 1) := by decide +kernel
theorem dX3_fail_11 : decode cX3_fail 11 = .ok (.ireturn, 1) := by decide +kernel
theorem eX3_fail {W : zWd} {c p : Int} {Q : Option Value → zWd → Prop} {X : zX} (hq : ∀ W' : zWd, zOffr W W' → W' 112 5 = c → W' 112 6 = p → Q (some (zI 0)) W') : Ev MX3_fail 0 0 W [.ref 112, zI c, zI p] Q X := by
  refine ev_of (ls := [.ref 112, zI c, zI p]) (by decide) rfl (fun _ => rfl) (fun _ => Nat.le_of_ble_eq_true rfl) (Or.inl rfl) ?_
  refine rr_aload_n (pc := 0) dX3_fail_0 rfl ?_
  refine rr_iload_n (pc := 1) dX3_fail_1 rfl ?_
  refine rr_put (pc := 2) (ji := 5) dX3_fail_2 fX3_158 fp_3_5 zk_112 zr_112_5 rfl ?_
  refine rr_aload_n (pc := 5) dX3_fail_5 rfl ?_
  refine rr_iload_n (pc := 6) dX3_fail_6 rfl ?_
  refine rr_put (pc := 7) (ji := 6) dX3_fail_7 fX3_15 fp_3_6 zk_112 zr_112_6 rfl ?_
  refine rr_iconst (n := 0) dX3_fail_10 ?_
  exact rr_reti (pc := 11) dX3_fail_11 rfl rfl rfl rfl (hq _ zOffr.rf.up.up (by rw [zup_i (by decide), zup_s]) zup_s)
def sSemi (B : Nat → Int) (N p : Nat) (a : Int → Int) : zRs := if p < N ∧ B p = 59 then .inr (sSk B N (p + 1), a) else .inl (-2, p)
def sVal (B : Nat → Int) (N : Nat) : Nat → Nat → Int → Int
  | 0, _, v => v
  | n + 1, i, v => if i < N ∧ fDi (B i) = true then sVal B N n (i + 1) (if 10 * v + B i - 48 < 1000 then 10 * v + B i - 48 else 1000) else v
abbrev sNv (B : Nat → Int) (N p : Nat) : Int := sVal B N (N - p) p 0
theorem sVal_y {B : Nat → Int} {N i : Nat} {v : Int} (h : i < N) (hf : fDi (B i) = true) : sVal B N (N - i) i v = sVal B N (N - (i + 1)) (i + 1) (if 10 * v + B i - 48 < 1000 then 10 * v + B i - 48 else 1000) := by
  rw [show N - i = (N - (i + 1)) + 1 by omega]
  exact if_pos ⟨h, hf⟩
theorem sVal_n {B : Nat → Int} {N i : Nat} {v : Int} (h : ¬ (i < N ∧ fDi (B i) = true)) : sVal B N (N - i) i v = v := by
  cases hn : N - i with
  | zero => rfl
  | succ n => exact if_neg h
def sNr (B : Nat → Int) (N : Nat) (lo hi : Int) (p : Nat) : (Int × Nat) ⊕ (Nat × Int) := if sDe B N p = p then .inl (-2, p) else if lo ≤ sNv B N p ∧ sNv B N p ≤ hi then .inr (sSk B N (sDe B N p), sNv B N p) else .inl (-3, p)
theorem dX3_readSemicolon_0 : decode cX3_readSemicolon 0 = .ok (.aload_n 0, 1) := by decide +kernel
theorem dX3_readSemicolon_1 : decode cX3_readSemicolon 1 = .ok (.bipush 59, 2) := by decide +kernel
theorem dX3_readSemicolon_3 : decode cX3_readSemicolon 3 = .ok (.invokevirtual 76, 3) := by decide +kernel
theorem dX3_readSemicolon_6 : decode cX3_readSemicolon 6 = .ok (.ifCond .ne 16, 3) := by decide +kernel
theorem dX3_readSemicolon_9 : decode cX3_readSemicolon 9 = .ok (.aload_n 0, 1) := by decide +kernel
theorem dX3_readSemicolon_10 : decode cX3_readSemicolon 10 = .ok (.bipush (-2), 2) := by decide +kernel
theorem dX3_readSemicolon_12 : decode cX3_readSemicolon 12 = .ok (.aload_n 0, 1) := by decide +kernel
theorem dX3_readSemicolon_13 : decode cX3_readSemicolon 13 = .ok (.getfield 50, 3) := by decide +kernel
theorem dX3_readSemicolon_16 : decode cX3_readSemicolon 16 = .ok (.invokevirtual 53, 3) := by decide +kernel
theorem dX3_readSemicolon_19 : decode cX3_readSemicolon 19 = .ok (.ifCond .eq 7, 3) := by decide +kernel
theorem dX3_readSemicolon_22 : decode cX3_readSemicolon 22 = .ok (.iconst 1, 1) := by decide +kernel
theorem dX3_readSemicolon_23 : decode cX3_readSemicolon 23 = .ok (.goto 4, 3) := by decide +kernel
theorem dX3_readSemicolon_26 : decode cX3_readSemicolon 26 = .ok (.iconst 0, 1) := by decide +kernel
theorem dX3_readSemicolon_27 : decode cX3_readSemicolon 27 = .ok (.ireturn, 1) := by decide +kernel
theorem eX3_readSemicolon {W : zWd} {B : Nat → Int} {N p : Nat} {a : Int → Int} {Q : Option Value → zWd → Prop} {X : zX} (hR : zRd W B N p) (hC : zCP W 8 a) (hq : zRQ W B N (sSemi B N p a) Q) : Ev MX3_readSemicolon 2 0 W [.ref 112] Q X := by
  refine ev_of (ls := [.ref 112]) (by decide) rfl (fun _ => rfl) (fun _ => Nat.le_of_ble_eq_true rfl) (Or.inl rfl) ?_
  refine rr_aload_n (pc := 0) dX3_readSemicolon_0 rfl ?_
  refine rr_bipush (n := (59)) dX3_readSemicolon_1 ?_
  refine rr_inv0 (M' := MX3_takeSign) (k := 112) (As := [_]) (pc := 3) dX3_readSemicolon_3 lX3_76 kX3_takeSign vX3_takeSign zk_112 (by decide) rfl (by decide) (by decide) (Nat.le_of_ble_eq_true rfl) rfl (eX3_takeSign (by omega) (by omega) hR (fun k => ?_) (fun k W1 o1 f1 r1 => ?_))
  · refine rr_if_ne (pc := 6) (tgt := 22) dX3_readSemicolon_6 (by decide) (by unfold zR; omega) (fun h => by omega) (fun h => ?_)
    refine rr_aload_n (pc := 9) dX3_readSemicolon_9 rfl ?_
    refine rr_bipush (n := (-2)) dX3_readSemicolon_10 ?_
    refine rr_aload_n (pc := 12) dX3_readSemicolon_12 rfl ?_
    refine rr_getI (pc := 13) (ji := 2) dX3_readSemicolon_13 fX3_50 zk_112 zr_112_2 rfl ?_
    rw [hR.2.1]
    refine rr_inv0 (M' := MX3_fail) (k := 112) (As := [_, _]) (pc := 16) dX3_readSemicolon_16 lX3_53 kX3_fail vX3_fail zk_112 (by decide) rfl (by decide) (by decide) (Nat.le_of_ble_eq_true rfl) rfl (eX3_fail (fun W1 o1 f5 f6 => ?_))
    · refine rr_if_eq (pc := 19) (tgt := 26) dX3_readSemicolon_19 (by decide) (by unfold zR; omega) (fun h => ?_) (fun h => by omega)
      refine rr_iconst (n := 0) dX3_readSemicolon_26 ?_
      exact rr_reti (pc := 27) dX3_readSemicolon_27 rfl rfl rfl rfl (hq.e (if_neg k) o1.q (o1.cp hC).by f5 f6)
  · refine rr_if_ne (pc := 6) (tgt := 22) dX3_readSemicolon_6 (by decide) (by unfold zR; omega) (fun h => ?_) (fun h => by omega)
    refine rr_iconst (n := 1) dX3_readSemicolon_22 ?_
    refine rr_goto (pc := 23) (tgt := 27) dX3_readSemicolon_23 (by decide) ?_
    exact rr_reti (pc := 27) dX3_readSemicolon_27 rfl rfl rfl rfl (hq.g (if_pos k) o1.q r1 (f1 6 (by decide) (by decide)) (o1.cp hC))
theorem dX3_readNumber_0 : decode cX3_readNumber 0 = .ok (.aload_n 0, 1) := by decide +kernel
theorem dX3_readNumber_1 : decode cX3_readNumber 1 = .ok (.getfield 50, 3) := by decide +kernel
theorem dX3_readNumber_4 : decode cX3_readNumber 4 = .ok (.istore_n 3, 1) := by decide +kernel
theorem dX3_readNumber_5 : decode cX3_readNumber 5 = .ok (.aload_n 0, 1) := by decide +kernel
theorem dX3_readNumber_6 : decode cX3_readNumber 6 = .ok (.iconst 0, 1) := by decide +kernel
theorem dX3_readNumber_7 : decode cX3_readNumber 7 = .ok (.putfield 83, 3) := by decide +kernel
theorem dX3_readNumber_10 : decode cX3_readNumber 10 = .ok (.iload_n 3, 1) := by decide +kernel
theorem dX3_readNumber_11 : decode cX3_readNumber 11 = .ok (.aload_n 0, 1) := by decide +kernel
theorem dX3_readNumber_12 : decode cX3_readNumber 12 = .ok (.getfield 19, 3) := by decide +kernel
theorem dX3_readNumber_15 : decode cX3_readNumber 15 = .ok (.if_icmp .ge 58, 3) := by decide +kernel
theorem dX3_readNumber_18 : decode cX3_readNumber 18 = .ok (.aload_n 0, 1) := by decide +kernel
theorem dX3_readNumber_19 : decode cX3_readNumber 19 = .ok (.getfield 9, 3) := by decide +kernel
theorem dX3_readNumber_22 : decode cX3_readNumber 22 = .ok (.iload_n 3, 1) := by decide +kernel
theorem dX3_readNumber_23 : decode cX3_readNumber 23 = .ok (.baload, 1) := by decide +kernel
theorem dX3_readNumber_24 : decode cX3_readNumber 24 = .ok (.bipush 48, 2) := by decide +kernel
theorem dX3_readNumber_26 : decode cX3_readNumber 26 = .ok (.if_icmp .lt 47, 3) := by decide +kernel
theorem dX3_readNumber_29 : decode cX3_readNumber 29 = .ok (.aload_n 0, 1) := by decide +kernel
theorem dX3_readNumber_30 : decode cX3_readNumber 30 = .ok (.getfield 9, 3) := by decide +kernel
theorem dX3_readNumber_33 : decode cX3_readNumber 33 = .ok (.iload_n 3, 1) := by decide +kernel
theorem dX3_readNumber_34 : decode cX3_readNumber 34 = .ok (.baload, 1) := by decide +kernel
theorem dX3_readNumber_35 : decode cX3_readNumber 35 = .ok (.bipush 57, 2) := by decide +kernel
theorem dX3_readNumber_37 : decode cX3_readNumber 37 = .ok (.if_icmp .gt 36, 3) := by decide +kernel
theorem dX3_readNumber_40 : decode cX3_readNumber 40 = .ok (.aload_n 0, 1) := by decide +kernel
theorem dX3_readNumber_41 : decode cX3_readNumber 41 = .ok (.sipush 1000, 3) := by decide +kernel
theorem dX3_readNumber_44 : decode cX3_readNumber 44 = .ok (.bipush 10, 2) := by decide +kernel
theorem dX3_readNumber_46 : decode cX3_readNumber 46 = .ok (.aload_n 0, 1) := by decide +kernel
theorem dX3_readNumber_47 : decode cX3_readNumber 47 = .ok (.getfield 83, 3) := by decide +kernel
theorem dX3_readNumber_50 : decode cX3_readNumber 50 = .ok (.imul, 1) := by decide +kernel
theorem dX3_readNumber_51 : decode cX3_readNumber 51 = .ok (.aload_n 0, 1) := by decide +kernel
theorem dX3_readNumber_52 : decode cX3_readNumber 52 = .ok (.getfield 9, 3) := by decide +kernel
theorem dX3_readNumber_55 : decode cX3_readNumber 55 = .ok (.iload_n 3, 1) := by decide +kernel
theorem dX3_readNumber_56 : decode cX3_readNumber 56 = .ok (.baload, 1) := by decide +kernel
theorem dX3_readNumber_57 : decode cX3_readNumber 57 = .ok (.iadd, 1) := by decide +kernel
theorem dX3_readNumber_58 : decode cX3_readNumber 58 = .ok (.bipush 48, 2) := by decide +kernel
theorem dX3_readNumber_60 : decode cX3_readNumber 60 = .ok (.isub, 1) := by decide +kernel
theorem dX3_readNumber_61 : decode cX3_readNumber 61 = .ok (.invokestatic 144, 3) := by decide +kernel
theorem dX3_readNumber_64 : decode cX3_readNumber 64 = .ok (.putfield 83, 3) := by decide +kernel
theorem dX3_readNumber_67 : decode cX3_readNumber 67 = .ok (.iinc 3 1, 3) := by decide +kernel
theorem dX3_readNumber_70 : decode cX3_readNumber 70 = .ok (.goto (-60), 3) := by decide +kernel
theorem dX3_readNumber_73 : decode cX3_readNumber 73 = .ok (.iload_n 3, 1) := by decide +kernel
theorem dX3_readNumber_74 : decode cX3_readNumber 74 = .ok (.aload_n 0, 1) := by decide +kernel
theorem dX3_readNumber_75 : decode cX3_readNumber 75 = .ok (.getfield 50, 3) := by decide +kernel
theorem dX3_readNumber_78 : decode cX3_readNumber 78 = .ok (.if_icmp .ne 14, 3) := by decide +kernel
theorem dX3_readNumber_81 : decode cX3_readNumber 81 = .ok (.aload_n 0, 1) := by decide +kernel
theorem dX3_readNumber_82 : decode cX3_readNumber 82 = .ok (.bipush (-2), 2) := by decide +kernel
theorem dX3_readNumber_84 : decode cX3_readNumber 84 = .ok (.aload_n 0, 1) := by decide +kernel
theorem dX3_readNumber_85 : decode cX3_readNumber 85 = .ok (.getfield 50, 3) := by decide +kernel
theorem dX3_readNumber_88 : decode cX3_readNumber 88 = .ok (.invokevirtual 53, 3) := by decide +kernel
theorem dX3_readNumber_91 : decode cX3_readNumber 91 = .ok (.ireturn, 1) := by decide +kernel
theorem dX3_readNumber_92 : decode cX3_readNumber 92 = .ok (.aload_n 0, 1) := by decide +kernel
theorem dX3_readNumber_93 : decode cX3_readNumber 93 = .ok (.getfield 83, 3) := by decide +kernel
theorem dX3_readNumber_96 : decode cX3_readNumber 96 = .ok (.iload_n 1, 1) := by decide +kernel
theorem dX3_readNumber_97 : decode cX3_readNumber 97 = .ok (.if_icmp .lt 11, 3) := by decide +kernel
theorem dX3_readNumber_100 : decode cX3_readNumber 100 = .ok (.aload_n 0, 1) := by decide +kernel
theorem dX3_readNumber_101 : decode cX3_readNumber 101 = .ok (.getfield 83, 3) := by decide +kernel
theorem dX3_readNumber_104 : decode cX3_readNumber 104 = .ok (.iload_n 2, 1) := by decide +kernel
theorem dX3_readNumber_105 : decode cX3_readNumber 105 = .ok (.if_icmp .le 14, 3) := by decide +kernel
theorem dX3_readNumber_108 : decode cX3_readNumber 108 = .ok (.aload_n 0, 1) := by decide +kernel
theorem dX3_readNumber_109 : decode cX3_readNumber 109 = .ok (.bipush (-3), 2) := by decide +kernel
theorem dX3_readNumber_111 : decode cX3_readNumber 111 = .ok (.aload_n 0, 1) := by decide +kernel
theorem dX3_readNumber_112 : decode cX3_readNumber 112 = .ok (.getfield 50, 3) := by decide +kernel
theorem dX3_readNumber_115 : decode cX3_readNumber 115 = .ok (.invokevirtual 53, 3) := by decide +kernel
theorem dX3_readNumber_118 : decode cX3_readNumber 118 = .ok (.ireturn, 1) := by decide +kernel
theorem dX3_readNumber_119 : decode cX3_readNumber 119 = .ok (.aload_n 0, 1) := by decide +kernel
theorem dX3_readNumber_120 : decode cX3_readNumber 120 = .ok (.iload_n 3, 1) := by decide +kernel
theorem dX3_readNumber_121 : decode cX3_readNumber 121 = .ok (.invokevirtual 27, 3) := by decide +kernel
theorem dX3_readNumber_124 : decode cX3_readNumber 124 = .ok (.iconst 1, 1) := by decide +kernel
theorem dX3_readNumber_125 : decode cX3_readNumber 125 = .ok (.ireturn, 1) := by decide +kernel
theorem eX3_readNumber {W : zWd} {B : Nat → Int} {N p : Nat} {lo hi : Int} {Q : Option Value → zWd → Prop} {X : zX} (hlo : zR lo) (hhi : zR hi) (hR : zRd W B N p) (hq0 : ∀ c : Int, sNr B N lo hi p = .inl (c, p) → ∀ W' : zWd, zOffr W W' → W' 112 5 = c → W' 112 6 = p → Q (some (zI 0)) W') (hq1 : ∀ (p' : Nat) (v : Int), sNr B N lo hi p = .inr (p', v) → ∀ W' : zWd, zOffr W W' → (∀ j : Int, j ≠ 2 → j ≠ 3 → j ≠ 4 → W' 112 j = W 112 j) → zRd W' B N p' → W' 112 4 = v → Q (some (zI 1)) W') : Ev MX3_readNumber 2 0 W [.ref 112, zI lo, zI hi] Q X := by
  refine ev_of (ls := [.ref 112, zI lo, zI hi, .null]) (by decide) rfl (fun _ => rfl) (fun _ => Nat.le_of_ble_eq_true rfl) (Or.inl rfl) ?_
  have hT := hR.1
  have h600 := hR.1.2.1
  have hpN := hR.2.2.2
  have tail : ∀ (i : Nat) (Wi : zWd) (v : Int), sDe B N p = i → sNv B N p = v → zOffr W Wi → (∀ j : Int, j ≠ 4 → Wi 112 j = W 112 j) → Wi 112 4 = v → zTx Wi B N → 0 ≤ v → v ≤ 1000 → RR MX3_readNumber 2 0 Wi 73 [.ref 112, zI lo, zI hi, zI (i : Int)] [] (zEnd MX3_readNumber Q X) X := by
    intro i Wi v hdi hvi hO hF e4 tX v0 v1
    have hdr : p ≤ sDe B N p ∧ sDe B N p ≤ N := sRun_rng _ _ hR.2.2.2
    have e2 : Wi 112 2 = p := (hF 2 (by decide)).trans hR.2.1
    refine rr_iload_n (pc := 73) dX3_readNumber_73 rfl ?_
    refine rr_aload_n (pc := 74) dX3_readNumber_74 rfl ?_
    refine rr_getI (pc := 75) (ji := 2) dX3_readNumber_75 fX3_50 zk_112 zr_112_2 rfl ?_
    rw [e2]
    refine rr_icmp_ne (pc := 78) (tgt := 92) dX3_readNumber_78 (by decide) (by unfold zR; omega) (by unfold zR; omega) (fun h78 => ?_) (fun h78 => ?_)
    · refine rr_aload_n (pc := 92) dX3_readNumber_92 rfl ?_
      refine rr_getI (pc := 93) (ji := 4) dX3_readNumber_93 fX3_83 zk_112 zr_112_4 rfl ?_
      rw [e4]
      refine rr_iload_n (pc := 96) dX3_readNumber_96 rfl ?_
      refine rr_icmp_lt (pc := 97) (tgt := 108) dX3_readNumber_97 (by decide) (by unfold zR; omega) hlo (fun h97 => ?_) (fun h97 => ?_)
      · refine rr_aload_n (pc := 108) dX3_readNumber_108 rfl ?_
        refine rr_bipush (n := (-3)) dX3_readNumber_109 ?_
        refine rr_aload_n (pc := 111) dX3_readNumber_111 rfl ?_
        refine rr_getI (pc := 112) (ji := 2) dX3_readNumber_112 fX3_50 zk_112 zr_112_2 rfl ?_
        rw [e2]
        refine rr_inv0 (M' := MX3_fail) (k := 112) (As := [_, _]) (pc := 115) dX3_readNumber_115 lX3_53 kX3_fail vX3_fail zk_112 (by decide) rfl (by decide) (by decide) (Nat.le_of_ble_eq_true rfl) rfl (eX3_fail (fun W1 o1 f5 f6 => ?_))
        · exact rr_reti (pc := 118) dX3_readNumber_118 rfl rfl rfl rfl (hq0 (-3) (by unfold sNr; rw [if_neg (by omega), if_neg (by omega)]) W1 (hO.tr o1) f5 f6)
      · refine rr_aload_n (pc := 100) dX3_readNumber_100 rfl ?_
        refine rr_getI (pc := 101) (ji := 4) dX3_readNumber_101 fX3_83 zk_112 zr_112_4 rfl ?_
        rw [e4]
        refine rr_iload_n (pc := 104) dX3_readNumber_104 rfl ?_
        refine rr_icmp_le (pc := 105) (tgt := 119) dX3_readNumber_105 (by decide) (by unfold zR; omega) hhi (fun h105 => ?_) (fun h105 => ?_)
        · refine rr_aload_n (pc := 119) dX3_readNumber_119 rfl ?_
          refine rr_iload_n (pc := 120) dX3_readNumber_120 rfl ?_
          refine rr_inv0 (M' := MX3_moveTo) (k := 112) (As := [_]) (pc := 121) dX3_readNumber_121 lX3_27 kX3_moveTo vX3_moveTo zk_112 (by decide) rfl (by decide) (by decide) (Nat.le_of_ble_eq_true rfl) rfl (eX3_moveTo tX (by omega) (fun W1 o1 f1 t1 k1 => ?_))
          refine rr_iconst (n := 1) dX3_readNumber_124 ?_
          exact rr_reti (pc := 125) dX3_readNumber_125 rfl rfl rfl rfl (hq1 _ _ (by unfold sNr; rw [if_neg (by omega), if_pos (by omega), hdi]) W1 (hO.tr o1) (fun j g2 g3 g4 => (f1 j g2 g3).trans (hF j g4)) ⟨t1, k1⟩ ((f1 4 (by decide) (by decide)).trans (e4.trans hvi.symm)))
        · refine rr_aload_n (pc := 108) dX3_readNumber_108 rfl ?_
          refine rr_bipush (n := (-3)) dX3_readNumber_109 ?_
          refine rr_aload_n (pc := 111) dX3_readNumber_111 rfl ?_
          refine rr_getI (pc := 112) (ji := 2) dX3_readNumber_112 fX3_50 zk_112 zr_112_2 rfl ?_
          rw [e2]
          refine rr_inv0 (M' := MX3_fail) (k := 112) (As := [_, _]) (pc := 115) dX3_readNumber_115 lX3_53 kX3_fail vX3_fail zk_112 (by decide) rfl (by decide) (by decide) (Nat.le_of_ble_eq_true rfl) rfl (eX3_fail (fun W1 o1 f5 f6 => ?_))
          · exact rr_reti (pc := 118) dX3_readNumber_118 rfl rfl rfl rfl (hq0 (-3) (by unfold sNr; rw [if_neg (by omega), if_neg (by omega)]) W1 (hO.tr o1) f5 f6)
    · refine rr_aload_n (pc := 81) dX3_readNumber_81 rfl ?_
      refine rr_bipush (n := (-2)) dX3_readNumber_82 ?_
      refine rr_aload_n (pc := 84) dX3_readNumber_84 rfl ?_
      refine rr_getI (pc := 85) (ji := 2) dX3_readNumber_85 fX3_50 zk_112 zr_112_2 rfl ?_
      rw [e2]
      refine rr_inv0 (M' := MX3_fail) (k := 112) (As := [_, _]) (pc := 88) dX3_readNumber_88 lX3_53 kX3_fail vX3_fail zk_112 (by decide) rfl (by decide) (by decide) (Nat.le_of_ble_eq_true rfl) rfl (eX3_fail (fun W1 o1 f5 f6 => ?_))
      · exact rr_reti (pc := 91) dX3_readNumber_91 rfl rfl rfl rfl (hq0 (-2) (by unfold sNr; rw [if_pos (by omega)]) W1 (hO.tr o1) f5 f6)
  have loop : ∀ (n : Nat) (i : Nat) (Wi : zWd) (v : Int), i ≤ N → zOffr W Wi → (∀ j : Int, j ≠ 4 → Wi 112 j = W 112 j) → Wi 112 4 = v → 0 ≤ v → v ≤ 1000 → sNv B N p = sVal B N (N - i) i v → sDe B N p = sDe B N i → N - i < n → RR MX3_readNumber 2 0 Wi 10 [.ref 112, zI lo, zI hi, zI (i : Int)] [] (zEnd MX3_readNumber Q X) X := by
    intro n
    induction n with
    | zero => intro i Wi v _ _ _ _ _ _ _ _ hm9; omega
    | succ n ih =>
      intro i Wi v h2 hO hF e4 v0 v1 hv hd hm9
      have tX := hT.off (hF 1 (by decide)) (hO 113 (by decide))
      refine rr_iload_n (pc := 10) dX3_readNumber_10 rfl ?_
      refine rr_aload_n (pc := 11) dX3_readNumber_11 rfl ?_
      refine rr_getI (pc := 12) (ji := 1) dX3_readNumber_12 fX3_19 zk_112 zr_112_1 rfl ?_
      rw [tX.1]
      refine rr_icmp_ge (pc := 15) (tgt := 73) dX3_readNumber_15 (by decide) (by unfold zR; omega) (by unfold zR; omega) (fun h15 => ?_) (fun h15 => ?_)
      · have hnl : ¬ (i < N ∧ fDi (B i) = true) := fun z => by
          have z2 := of_decide_eq_true z.2
          omega
        exact tail i Wi v (hd.trans (sRun_n hnl)) (hv.trans (sVal_n hnl)) hO hF e4 tX v0 v1
      · have hb := tX.2.2 i (by omega)
        have hbs := sB_rng hb.1 hb.2.1
        refine rr_aload_n (pc := 18) dX3_readNumber_18 rfl ?_
        refine rr_getR (pc := 19) dX3_readNumber_19 fX3_9 zk_112 zr_112_0 ?_
        refine rr_iload_n (pc := 22) dX3_readNumber_22 rfl ?_
        refine rr_bald (pc := 23) dX3_readNumber_23 zk_113 (by omega) (by omega) ?_
        rw [hb.2.2]
        refine rr_bipush (n := (48)) dX3_readNumber_24 ?_
        refine rr_icmp_lt (pc := 26) (tgt := 73) dX3_readNumber_26 (by decide) (by unfold zR; omega) (by unfold zR; omega) (fun h26 => ?_) (fun h26 => ?_)
        · have hnl : ¬ (i < N ∧ fDi (B i) = true) := fun z => by
            have z2 := of_decide_eq_true z.2
            unfold sB at h26; split at h26 <;> omega
          exact tail i Wi v (hd.trans (sRun_n hnl)) (hv.trans (sVal_n hnl)) hO hF e4 tX v0 v1
        · refine rr_aload_n (pc := 29) dX3_readNumber_29 rfl ?_
          refine rr_getR (pc := 30) dX3_readNumber_30 fX3_9 zk_112 zr_112_0 ?_
          refine rr_iload_n (pc := 33) dX3_readNumber_33 rfl ?_
          refine rr_bald (pc := 34) dX3_readNumber_34 zk_113 (by omega) (by omega) ?_
          rw [hb.2.2]
          refine rr_bipush (n := (57)) dX3_readNumber_35 ?_
          refine rr_icmp_gt (pc := 37) (tgt := 73) dX3_readNumber_37 (by decide) (by unfold zR; omega) (by unfold zR; omega) (fun h37 => ?_) (fun h37 => ?_)
          · have hnl : ¬ (i < N ∧ fDi (B i) = true) := fun z => by
              have z2 := of_decide_eq_true z.2
              unfold sB at h37; split at h37 <;> omega
            exact tail i Wi v (hd.trans (sRun_n hnl)) (hv.trans (sVal_n hnl)) hO hF e4 tX v0 v1
          · have hbe : sB (B i) = B i := by unfold sB at h26 h37 ⊢; split at h26 <;> omega
            have hlt : i < N ∧ fDi (B i) = true := ⟨by omega, decide_eq_true (by omega)⟩
            refine rr_aload_n (pc := 40) dX3_readNumber_40 rfl ?_
            refine rr_sipush (n := (1000)) dX3_readNumber_41 ?_
            refine rr_bipush (n := (10)) dX3_readNumber_44 ?_
            refine rr_aload_n (pc := 46) dX3_readNumber_46 rfl ?_
            refine rr_getI (pc := 47) (ji := 4) dX3_readNumber_47 fX3_83 zk_112 zr_112_4 rfl ?_
            rw [e4]
            refine rr_imul (pc := 50) dX3_readNumber_50 ?_
            refine rr_aload_n (pc := 51) dX3_readNumber_51 rfl ?_
            refine rr_getR (pc := 52) dX3_readNumber_52 fX3_9 zk_112 zr_112_0 ?_
            refine rr_iload_n (pc := 55) dX3_readNumber_55 rfl ?_
            refine rr_bald (pc := 56) dX3_readNumber_56 zk_113 (by omega) (by omega) ?_
            rw [hb.2.2, hbe]
            refine rr_iadd (pc := 57) dX3_readNumber_57 ?_
            refine rr_bipush (n := (48)) dX3_readNumber_58 ?_
            refine rr_isub (pc := 60) dX3_readNumber_60 ?_
            refine rr_min (pc := 61) dX3_readNumber_61 lX3_144 z_mmin (by unfold zR; omega) (by unfold zR; omega) (by decide) (Nat.le_of_ble_eq_true rfl) ?_
            refine rr_put (pc := 64) (ji := 4) dX3_readNumber_64 fX3_83 fp_3_4 zk_112 zr_112_4 rfl ?_
            refine rr_iinc (pc := 67) dX3_readNumber_67 rfl (by decide) ?_
            refine rr_goto (pc := 70) (tgt := 10) dX3_readNumber_70 (by decide) ?_
            exact ih (i + 1) _ _ (by omega) hO.up (fun j g => by rw [zup_i g]; exact hF j g) zup_s (by split <;> omega) (by split <;> omega) (hv.trans (sVal_y hlt.1 hlt.2)) (hd.trans (sRun_y hlt.1 hlt.2)) (by omega)
  refine rr_aload_n (pc := 0) dX3_readNumber_0 rfl ?_
  refine rr_getI (pc := 1) (ji := 2) dX3_readNumber_1 fX3_50 zk_112 zr_112_2 rfl ?_
  rw [hR.2.1]
  refine rr_istore_n (pc := 4) dX3_readNumber_4 (by decide) ?_
  refine rr_aload_n (pc := 5) dX3_readNumber_5 rfl ?_
  refine rr_iconst (n := 0) dX3_readNumber_6 ?_
  refine rr_put (pc := 7) (ji := 4) dX3_readNumber_7 fX3_83 fp_3_4 zk_112 zr_112_4 rfl ?_
  exact loop _ p _ 0 hpN zOffr.rf.up (fun j g => by rw [zup_i g]) zup_s (by omega) (by omega) rfl rfl (Nat.lt_succ_self _)
