def wCourt : List Int := [99, 111, 117, 114, 116]
theorem zS_0 : zStrs[0]? = some ("HopscotchCourt$Reader", 44, "court", wCourt) := rfl
theorem zO_0 : zWo ("HopscotchCourt$Reader", 44, "court", wCourt) := ⟨by decide, by decide⟩
theorem zS_11 : zStrs[11]? = some ("HopscotchCourtModel", 193, "court", wCourt) := rfl
theorem zO_11 : zWo ("HopscotchCourtModel", 193, "court", wCourt) := ⟨by decide, by decide⟩
def wOne : List Int := [111, 110, 101]
theorem zS_1 : zStrs[1]? = some ("HopscotchCourt$Reader", 57, "one", wOne) := rfl
theorem zO_1 : zWo ("HopscotchCourt$Reader", 57, "one", wOne) := ⟨by decide, by decide⟩
theorem zS_12 : zStrs[12]? = some ("HopscotchCourtModel", 142, "one", wOne) := rfl
theorem zO_12 : zWo ("HopscotchCourtModel", 142, "one", wOne) := ⟨by decide, by decide⟩
def wTwo : List Int := [116, 119, 111]
theorem zS_2 : zStrs[2]? = some ("HopscotchCourt$Reader", 62, "two", wTwo) := rfl
theorem zO_2 : zWo ("HopscotchCourt$Reader", 62, "two", wTwo) := ⟨by decide, by decide⟩
theorem zS_13 : zStrs[13]? = some ("HopscotchCourtModel", 144, "two", wTwo) := rfl
theorem zO_13 : zWo ("HopscotchCourtModel", 144, "two", wTwo) := ⟨by decide, by decide⟩
def wDrift : List Int := [100, 114, 105, 102, 116]
theorem zS_3 : zStrs[3]? = some ("HopscotchCourt$Reader", 74, "drift", wDrift) := rfl
theorem zO_3 : zWo ("HopscotchCourt$Reader", 74, "drift", wDrift) := ⟨by decide, by decide⟩
theorem zS_14 : zStrs[14]? = some ("HopscotchCourtModel", 198, "drift", wDrift) := rfl
theorem zO_14 : zWo ("HopscotchCourtModel", 198, "drift", wDrift) := ⟨by decide, by decide⟩
def wPlayer : List Int := [112, 108, 97, 121, 101, 114]
theorem zS_4 : zStrs[4]? = some ("HopscotchCourt$Reader", 88, "player", wPlayer) := rfl
theorem zO_4 : zWo ("HopscotchCourt$Reader", 88, "player", wPlayer) := ⟨by decide, by decide⟩
theorem zS_15 : zStrs[15]? = some ("HopscotchCourtModel", 157, "player", wPlayer) := rfl
theorem zO_15 : zWo ("HopscotchCourtModel", 157, "player", wPlayer) := ⟨by decide, by decide⟩
def wReach : List Int := [114, 101, 97, 99, 104]
theorem zS_5 : zStrs[5]? = some ("HopscotchCourt$Reader", 106, "reach", wReach) := rfl
theorem zO_5 : zWo ("HopscotchCourt$Reader", 106, "reach", wReach) := ⟨by decide, by decide⟩
theorem zS_16 : zStrs[16]? = some ("HopscotchCourtModel", 162, "reach", wReach) := rfl
theorem zO_16 : zWo ("HopscotchCourtModel", 162, "reach", wReach) := ⟨by decide, by decide⟩
def wBalance : List Int := [98, 97, 108, 97, 110, 99, 101]
theorem zS_6 : zStrs[6]? = some ("HopscotchCourt$Reader", 112, "balance", wBalance) := rfl
theorem zO_6 : zWo ("HopscotchCourt$Reader", 112, "balance", wBalance) := ⟨by decide, by decide⟩
theorem zS_17 : zStrs[17]? = some ("HopscotchCourtModel", 170, "balance", wBalance) := rfl
theorem zO_17 : zWo ("HopscotchCourtModel", 170, "balance", wBalance) := ⟨by decide, by decide⟩
def wTarget : List Int := [116, 97, 114, 103, 101, 116]
theorem zS_7 : zStrs[7]? = some ("HopscotchCourt$Reader", 114, "target", wTarget) := rfl
theorem zO_7 : zWo ("HopscotchCourt$Reader", 114, "target", wTarget) := ⟨by decide, by decide⟩
theorem zS_18 : zStrs[18]? = some ("HopscotchCourtModel", 172, "target", wTarget) := rfl
theorem zO_18 : zWo ("HopscotchCourtModel", 172, "target", wTarget) := ⟨by decide, by decide⟩
def wClaims : List Int := [99, 108, 97, 105, 109, 115]
theorem zS_8 : zStrs[8]? = some ("HopscotchCourt$Reader", 116, "claims", wClaims) := rfl
theorem zO_8 : zWo ("HopscotchCourt$Reader", 116, "claims", wClaims) := ⟨by decide, by decide⟩
theorem zS_19 : zStrs[19]? = some ("HopscotchCourtModel", 174, "claims", wClaims) := rfl
theorem zO_19 : zWo ("HopscotchCourtModel", 174, "claims", wClaims) := ⟨by decide, by decide⟩
def wOwns : List Int := [111, 119, 110, 115]
theorem zS_9 : zStrs[9]? = some ("HopscotchCourt$Reader", 138, "owns", wOwns) := rfl
theorem zO_9 : zWo ("HopscotchCourt$Reader", 138, "owns", wOwns) := ⟨by decide, by decide⟩
theorem zS_20 : zStrs[20]? = some ("HopscotchCourtModel", 176, "owns", wOwns) := rfl
theorem zO_20 : zWo ("HopscotchCourtModel", 176, "owns", wOwns) := ⟨by decide, by decide⟩
def wMarker : List Int := [109, 97, 114, 107, 101, 114]
theorem zS_10 : zStrs[10]? = some ("HopscotchCourt$Reader", 121, "marker", wMarker) := rfl
theorem zO_10 : zWo ("HopscotchCourt$Reader", 121, "marker", wMarker) := ⟨by decide, by decide⟩
theorem zS_21 : zStrs[21]? = some ("HopscotchCourtModel", 181, "marker", wMarker) := rfl
theorem zO_21 : zWo ("HopscotchCourtModel", 181, "marker", wMarker) := ⟨by decide, by decide⟩
/-- a reading that ends with another's end -/
theorem zRQ.of {W : zWd} {B : Nat → Int} {N : Nat} {r : zRs} {Q Q' : Option Value → zWd → Prop} (h : zRQ W B N r Q) (h0 : ∀ W', Q (some (zI 0)) W' → Q' (some (zI 0)) W') (h1 : ∀ W', Q (some (zI 1)) W' → Q' (some (zI 1)) W') : zRQ W B N r Q' :=
  ⟨fun e he W' o b e1 e2 => h0 W' (h.1 e he W' o b e1 e2), fun g hg W' o b e c => h1 W' (h.2 g hg W' o b e c)⟩
theorem CP_3 {W : zWd} {c : Nat} {a : Int → Int} {v : Int} (h : zCP W c a) (h0 : -9 ≤ v) (h1 : v ≤ 9) : zCP (zup W c 3 v) c (iup a 3 v) := by
  have na : ∀ i : Int, i ≠ 3 → iup a 3 v i = a i := fun i hi => iup_n hi
  refine ⟨CR_0 h.1 (by omega), fun s g1 g2 g3 => by rw [na 1 (by decide)] at g1; rw [zup_other _ (by omega), zup_other _ (by omega)]; exact h.2.1 s g1 g2 g3, ?_⟩
  obtain ⟨p0, p0', pW, p1, p2, p2', p3, p3', p4, p5, p6, p7, pS, pP⟩ := id h.2.2
  unfold zPf
  rw [na 0 (by decide), na 1 (by decide), na 2 (by decide), na 4 (by decide), na 5 (by decide), na 6 (by decide), na 7 (by decide), iup_s, aF_cg (a := a) (fun j g1 g2 => na j (by omega)) _ (by omega)]
  refine ⟨p0, p0', fun r g1 g2 => by rw [na _ (by omega)]; exact pW r g1 g2, p1, p2, p2', h0, h1, p4, p5, p6, p7, fun s g1 g2 => ?_, fun p g1 g2 => ?_⟩
  · have := pS s g1 g2
    unfold aO aL at *
    rw [na _ (by omega), na _ (by omega)]; exact this
  · have := pP p g1 g2
    unfold zWfP aP at *
    rw [na 1 (by decide), na _ (by omega), na _ (by omega), na _ (by omega), na _ (by omega), na _ (by omega), na _ (by omega), na _ (by omega), na _ (by omega), na _ (by omega)]
    exact this
theorem CP_P {W : zWd} {c : Nat} {a : Int → Int} {p j w v v' : Int} (h : zCP W c a) (hp0 : 0 ≤ p) (hj : zPj j w v v') (hv : zWr 0 a w v') : zCP (zup W (c + 5) (p * 10 + j) v) c (iup a (58 + 17 * p + w) v') := by
  have hw : 0 ≤ w ∧ w ≤ 8 := by unfold zWr at hv; omega
  have na : ∀ i : Int, i < 58 → iup a (58 + 17 * p + w) v' i = a i := fun i hi => iup_n (by omega)
  refine ⟨CR_P h.1 hp0 hj, fun s g1 g2 g3 => by rw [na 1 (by decide)] at g1; rw [zup_other _ (by omega), zup_other _ (by omega)]; exact h.2.1 s g1 g2 g3, ?_⟩
  obtain ⟨p0, p0', pW, p1, p2, p2', p3, p3', p4, p5, p6, p7, pS, pP⟩ := id h.2.2
  unfold zPf
  rw [na 0 (by decide), na 1 (by decide), na 2 (by decide), na 3 (by decide), na 4 (by decide), na 5 (by decide), na 6 (by decide), na 7 (by decide), aF_cg (a := a) (fun j g1 g2 => na j (by omega)) _ (by omega)]
  refine ⟨p0, p0', fun r g1 g2 => by rw [na _ (by omega)]; exact pW r g1 g2, p1, p2, p2', p3, p3', p4, p5, p6, p7, fun s g1 g2 => ?_, fun p' g1 g2 => ?_⟩
  · have := pS s g1 g2
    unfold aO aL at *
    rw [na _ (by omega), na _ (by omega)]; exact this
  · have h9 := pP p' g1 g2
    unfold zWfP at h9 ⊢
    rw [na 1 (by omega)]
    unfold zWr at hv
    by_cases hpp : p' = p
    · subst hpp
      unfold aP at h9 ⊢
      simp only [iup]
      refine ⟨?_, ?_, ?_, ?_, ?_, ?_, ?_, ?_, ?_, ?_, ?_, ?_, ?_, ?_, ?_, ?_, ?_, ?_⟩
      all_goals (split <;> omega)
    · have ea : ∀ k : Int, 0 ≤ k → k ≤ 8 → aP (iup a (58 + 17 * p + w) v') p' k = aP a p' k := fun k h1 h2 => by unfold aP; exact iup_n (by omega)
      rw [ea 0 (by omega) (by omega), ea 1 (by omega) (by omega), ea 2 (by omega) (by omega), ea 3 (by omega) (by omega), ea 4 (by omega) (by omega), ea 5 (by omega) (by omega), ea 6 (by omega) (by omega), ea 7 (by omega) (by omega), ea 8 (by omega) (by omega)]
      exact h9
theorem CP_S {W : zWd} {c : Nat} {a : Int → Int} {s v : Int} (h : zCP W c a) (h1 : 1 ≤ s) (h2 : s ≤ a 1) (h0 : 0 ≤ v) (hv : v < a 2) : zCP (zup W (c + 3) s v) c (iup a (18 + 2 * (s - 1) + (0 : Nat)) (v + 1)) := by
  have hsq := h.2.2.sq
  have hp0 := h.2.2.2.1
  have hc := CR_S (o := 0) (v := v) h.1 h1 (by omega) (Or.inl rfl)
  rw [if_pos rfl] at hc
  have na : ∀ i : Int, i < 18 ∨ 58 ≤ i → iup a (18 + 2 * (s - 1) + (0 : Nat)) (v + 1) i = a i := fun i hi => iup_n (by omega)
  refine ⟨hc, fun s' g1 g2 g3 => by rw [na 1 (by omega)] at g1; rw [zup_i (by omega), zup_other _ (by omega)]; exact h.2.1 s' g1 g2 g3, ?_⟩
  obtain ⟨p0, p0', pW, p1, p2, p2', p3, p3', p4, p5, p6, p7, pS, pP⟩ := id h.2.2
  unfold zPf
  rw [na 0 (by omega), na 1 (by omega), na 2 (by omega), na 3 (by omega), na 4 (by omega), na 5 (by omega), na 6 (by omega), na 7 (by omega), aF_cg (a := a) (fun j g1 g2 => na j (by omega)) _ (by omega)]
  refine ⟨p0, p0', fun r g1 g2 => by rw [na _ (by omega)]; exact pW r g1 g2, p1, p2, p2', p3, p3', p4, p5, p6, p7, fun s' g1 g2 => ?_, fun p g1 g2 => ?_⟩
  · have := pS s' g1 g2
    have eL : aL (iup a (18 + 2 * (s - 1) + (0 : Nat)) (v + 1)) s' = aL a s' := by unfold aL; exact iup_n (by omega)
    rw [eL]
    by_cases q : s' = s
    · subst q
      have eO : aO (iup a (18 + 2 * (s' - 1) + (0 : Nat)) (v + 1)) s' = v := by unfold aO iup; rw [if_pos (by omega)]; omega
      rw [eO]; omega
    · have eO : aO (iup a (18 + 2 * (s - 1) + (0 : Nat)) (v + 1)) s' = aO a s' := by unfold aO; rw [iup_n (by omega)]
      rw [eO]; exact this
  · have := pP p g1 g2
    unfold zWfP aP at *
    rw [na 1 (by omega), na _ (by omega), na _ (by omega), na _ (by omega), na _ (by omega), na _ (by omega), na _ (by omega), na _ (by omega), na _ (by omega), na _ (by omega)]
    exact this
theorem zOff.rd6 {W W' : zWd} (h : zOff 8 W W') : W' 112 6 = W 112 6 := by rw [h 112 (by omega)]
def sDrift (B : Nat → Int) (N p : Nat) (a : Int → Int) : zRs :=
  if sW B N p wDrift = true then
    (if adv B N p < N ∧ B (adv B N p) = 45 then
      (match sNr B N 0 9 (sSk B N (adv B N p + 1)) with
        | .inl e => .inl e
        | .inr g => sSemi B N g.1 (iup a 3 (-g.2)))
    else
      (match sNr B N 0 9 (adv B N p) with
        | .inl e => .inl e
        | .inr g => sSemi B N g.1 (iup a 3 g.2)))
  else .inr (p, a)
theorem sNr_in {B : Nat → Int} {N p p' : Nat} {lo hi v : Int} (h : sNr B N lo hi p = .inr (p', v)) : lo ≤ v ∧ v ≤ hi := by
  unfold sNr at h
  by_cases q : sDe B N p = p
  · rw [if_pos q] at h; cases h
  · rw [if_neg q] at h
    by_cases q2 : lo ≤ sNv B N p ∧ sNv B N p ≤ hi
    · rw [if_pos q2] at h; cases h; exact q2
    · rw [if_neg q2] at h; cases h
def sPart (B : Nat → Int) (N p : Nat) (a : Int → Int) (q : Int) (wd : List Int) (w : Int) : zRs :=
  if sW B N p wd = true then
    (match sNr B N (if w = 3 then 0 else 1) (vHi w (a 1)) (adv B N p) with
      | .inl e => .inl e
      | .inr g => .inr (g.1, iup a (58 + 17 * q + w) g.2))
  else .inr (p, a)
def sOwn (B : Nat → Int) (N : Nat) (q : Int) : Nat → Nat → (Int → Int) → zRs
  | 0, p, a => .inr (p, a)
  | n + 1, p, a => if sW B N p wOwns = true then
      (match sNr B N 1 (a 1) (adv B N p) with
        | .inl e => .inl e
        | .inr g => if aO a g.2 = -1 then sOwn B N q n g.1 (iup a (18 + 2 * (g.2 - 1) + (0 : Nat)) (q + 1)) else .inl (-4, adv B N p))
    else .inr (p, a)
theorem dX3_readPart_0 : decode cX3_readPart 0 = .ok (.aload_n 0, 1) := by decide +kernel
theorem dX3_readPart_1 : decode cX3_readPart 1 = .ok (.aload_n 3, 1) := by decide +kernel
theorem dX3_readPart_2 : decode cX3_readPart 2 = .ok (.invokevirtual 46, 3) := by decide +kernel
theorem dX3_readPart_5 : decode cX3_readPart 5 = .ok (.ifCond .ne 5, 3) := by decide +kernel
theorem dX3_readPart_8 : decode cX3_readPart 8 = .ok (.iconst 1, 1) := by decide +kernel
theorem dX3_readPart_9 : decode cX3_readPart 9 = .ok (.ireturn, 1) := by decide +kernel
theorem dX3_readPart_10 : decode cX3_readPart 10 = .ok (.aload_n 0, 1) := by decide +kernel
theorem dX3_readPart_11 : decode cX3_readPart 11 = .ok (.iload 4, 2) := by decide +kernel
theorem dX3_readPart_13 : decode cX3_readPart 13 = .ok (.invokestatic 123, 3) := by decide +kernel
theorem dX3_readPart_16 : decode cX3_readPart 16 = .ok (.iload 4, 2) := by decide +kernel
theorem dX3_readPart_18 : decode cX3_readPart 18 = .ok (.aload_n 1, 1) := by decide +kernel
theorem dX3_readPart_19 : decode cX3_readPart 19 = .ok (.getfield 127, 3) := by decide +kernel
theorem dX3_readPart_22 : decode cX3_readPart 22 = .ok (.invokestatic 130, 3) := by decide +kernel
theorem dX3_readPart_25 : decode cX3_readPart 25 = .ok (.invokevirtual 80, 3) := by decide +kernel
theorem dX3_readPart_28 : decode cX3_readPart 28 = .ok (.ifCond .ne 5, 3) := by decide +kernel
theorem dX3_readPart_31 : decode cX3_readPart 31 = .ok (.iconst 0, 1) := by decide +kernel
theorem dX3_readPart_32 : decode cX3_readPart 32 = .ok (.ireturn, 1) := by decide +kernel
theorem dX3_readPart_33 : decode cX3_readPart 33 = .ok (.aload_n 1, 1) := by decide +kernel
theorem dX3_readPart_34 : decode cX3_readPart 34 = .ok (.iload_n 2, 1) := by decide +kernel
theorem dX3_readPart_35 : decode cX3_readPart 35 = .ok (.iload 4, 2) := by decide +kernel
theorem dX3_readPart_37 : decode cX3_readPart 37 = .ok (.aload_n 0, 1) := by decide +kernel
theorem dX3_readPart_38 : decode cX3_readPart 38 = .ok (.getfield 83, 3) := by decide +kernel
theorem dX3_readPart_41 : decode cX3_readPart 41 = .ok (.invokevirtual 134, 3) := by decide +kernel
theorem dX3_readPart_44 : decode cX3_readPart 44 = .ok (.iconst 1, 1) := by decide +kernel
theorem dX3_readPart_45 : decode cX3_readPart 45 = .ok (.ireturn, 1) := by decide +kernel
theorem eX3_readPart {W : zWd} {B : Nat → Int} {N p : Nat} {a : Int → Int} {pl w : Int} {i : Nat} {q : String × Nat × String × List Int} {Q : Option Value → zWd → Prop} {X : zX} (hR : zRd W B N p) (hC : zCP W 8 a) (hs : zStrs[i]? = some q) (hwo : zWo q) (hp0 : 0 ≤ pl) (hp1 : pl < a 2) (hw : (0 ≤ w ∧ w ≤ 3) ∨ w = 5) (hq : zRQ W B N (sPart B N p a pl q.2.2.2 w) Q) : Ev MX3_readPart 6 0 W [.ref 112, .ref 8, zI pl, .ref (1000 + i), zI w] Q X := by
  refine ev_of (ls := [.ref 112, .ref 8, zI pl, .ref (1000 + i), zI w]) (by decide) rfl (fun _ => rfl) (fun _ => Nat.le_of_ble_eq_true rfl) (Or.inl rfl) ?_
  have hp29 := hC.2.2.2.2.2.2.2.1
  refine rr_aload_n (pc := 0) dX3_readPart_0 rfl ?_
  refine rr_aload_n (pc := 1) dX3_readPart_1 rfl ?_
  refine rr_inv0 (M' := MX3_takeWord) (k := 112) (As := [_]) (pc := 2) dX3_readPart_2 lX3_46 kX3_takeWord vX3_takeWord zk_112 (by decide) rfl (by decide) (by decide) (Nat.le_of_ble_eq_true rfl) rfl (eX3_takeWord hs hwo hR (fun k0 => ?_) (fun k0 W1 o1 f1 r1 => ?_))
  · refine rr_if_ne (pc := 5) (tgt := 10) dX3_readPart_5 (by decide) (by unfold zR; omega) (fun h => by omega) (fun h => ?_)
    refine rr_iconst (n := 1) dX3_readPart_8 ?_
    exact rr_reti (pc := 9) dX3_readPart_9 rfl rfl rfl rfl (hq.g (if_neg k0) zOffq.rf hR rfl hC)
  · refine rr_if_ne (pc := 5) (tgt := 10) dX3_readPart_5 (by decide) (by unfold zR; omega) (fun h => ?_) (fun h => by omega)
    refine rr_aload_n (pc := 10) dX3_readPart_10 rfl ?_
    refine rr_iload (pc := 11) dX3_readPart_11 rfl ?_
    refine rr_staN (M' := MX6_lowestOf) (As := [_]) (pc := 13) dX3_readPart_13 lX3_123 kX6_lowestOf sX6_lowestOf (by decide) (by decide) (Nat.le_of_ble_eq_true rfl) rfl (eX6_lowestOf (by unfold zR; omega) ?_)
    refine rr_iload (pc := 16) dX3_readPart_16 rfl ?_
    refine rr_aload_n (pc := 18) dX3_readPart_18 rfl ?_
    have c1 := o1.cp hC
    refine rr_getI (pc := 19) (ji := 1) dX3_readPart_19 fX3_127 zCt_8.k zCt_8.i1 rfl ?_
    rw [c1.1.2.1]
    refine rr_staN (M' := MX6_highestOf) (As := [_, _]) (pc := 22) dX3_readPart_22 lX3_130 kX6_highestOf sX6_highestOf (by decide) (by decide) (Nat.le_of_ble_eq_true rfl) rfl (eX6_highestOf (by unfold zR; omega) ?_)
    have hsq := hC.2.2.sq
    have hp9 := hC.2.2.2.1
    have hh := vHi_R (w := w) (n := a 1) (by omega) (by omega)
    have e6 : W1 112 6 = W 112 6 := f1 6 (by decide) (by decide)
    refine rr_inv0 (M' := MX3_readNumber) (k := 112) (As := [_, _]) (pc := 25) dX3_readPart_25 lX3_80 kX3_readNumber vX3_readNumber zk_112 (by decide) rfl (by decide) (by decide) (Nat.le_of_ble_eq_true rfl) rfl (eX3_readNumber (by split <;> (unfold zR; omega)) (by unfold zR; omega) r1 (fun c hn2 W2 o2 f52 f62 => ?_) (fun p2 v2 hn2 W2 o2 f2 r2 e42 => ?_))
    · refine rr_if_ne (pc := 28) (tgt := 33) dX3_readPart_28 (by decide) (by unfold zR; omega) (fun h => by omega) (fun h => ?_)
      refine rr_iconst (n := 0) dX3_readPart_31 ?_
      exact rr_reti (pc := 32) dX3_readPart_32 rfl rfl rfl rfl (hq.e (by unfold sPart; rw [if_pos k0, hn2]) (o1.tr o2).q ((o1.tr o2).cp hC).by f52 f62)
    · refine rr_if_ne (pc := 28) (tgt := 33) dX3_readPart_28 (by decide) (by unfold zR; omega) (fun h => ?_) (fun h => by omega)
      refine rr_aload_n (pc := 33) dX3_readPart_33 rfl ?_
      refine rr_iload_n (pc := 34) dX3_readPart_34 rfl ?_
      refine rr_iload (pc := 35) dX3_readPart_35 rfl ?_
      refine rr_aload_n (pc := 37) dX3_readPart_37 rfl ?_
      refine rr_getI (pc := 38) (ji := 4) dX3_readPart_38 fX3_83 zk_112 zr_112_4 rfl ?_
      rw [e42]
      have hv := sNr_in hn2
      have c2 := (o1.tr o2).cp hC
      refine rr_invN (M' := MX0_put) (k := 8) (As := [_, _, _]) (pc := 41) dX3_readPart_41 lX3_134 kX0_put vX0_put zCt_8.k (by decide) rfl (by decide) (by decide) (Nat.le_of_ble_eq_true rfl) rfl (eX0_put zCt_8 (by omega) (by omega) (by omega) (by omega) ?_)
      have hpj : zPj w w v2 v2 := by
        unfold zPj
        rcases hw with g | g
        · exact Or.inl ⟨g.1, by omega, rfl, rfl⟩
        · subst g; exact Or.inr (Or.inl ⟨rfl, rfl, by rw [if_neg (by simp at hv; omega)]⟩)
      have hwr : zWr 0 a w v2 := by
        unfold zWr
        unfold vHi at hv
        have h9 : w = 0 ∨ w = 1 ∨ w = 2 ∨ w = 3 ∨ w = 5 := by omega
        rcases h9 with rfl | rfl | rfl | rfl | rfl <;> simp at hv <;> omega
      have c3 := CP_P c2 hp0 hpj hwr
      have o3 : zOff 8 W2 (zup W2 (8 + 5) (pl * 10 + w) v2) := zOff.rf.up (by omega)
      generalize zup W2 (8 + 5) (pl * 10 + w) v2 = W3 at c3 o3 ⊢
      refine rr_iconst (n := 1) dX3_readPart_44 ?_
      exact rr_reti (pc := 45) dX3_readPart_45 rfl rfl rfl rfl (hq.g (by unfold sPart; rw [if_pos k0, hn2]) ((o1.tr o2).q.tr o3.q) (o3.rd r2) (o3.rd6.trans ((f2 6 (by decide) (by decide) (by decide)).trans e6)) c3)
theorem dX3_readDrift_0 : decode cX3_readDrift 0 = .ok (.aload_n 0, 1) := by decide +kernel
theorem dX3_readDrift_1 : decode cX3_readDrift 1 = .ok (.ldc 74, 2) := by decide +kernel
theorem dX3_readDrift_3 : decode cX3_readDrift 3 = .ok (.invokevirtual 46, 3) := by decide +kernel
theorem dX3_readDrift_6 : decode cX3_readDrift 6 = .ok (.ifCond .ne 5, 3) := by decide +kernel
theorem dX3_readDrift_9 : decode cX3_readDrift 9 = .ok (.iconst 1, 1) := by decide +kernel
theorem dX3_readDrift_10 : decode cX3_readDrift 10 = .ok (.ireturn, 1) := by decide +kernel
theorem dX3_readDrift_11 : decode cX3_readDrift 11 = .ok (.aload_n 0, 1) := by decide +kernel
theorem dX3_readDrift_12 : decode cX3_readDrift 12 = .ok (.bipush 45, 2) := by decide +kernel
theorem dX3_readDrift_14 : decode cX3_readDrift 14 = .ok (.invokevirtual 76, 3) := by decide +kernel
theorem dX3_readDrift_17 : decode cX3_readDrift 17 = .ok (.istore_n 2, 1) := by decide +kernel
theorem dX3_readDrift_18 : decode cX3_readDrift 18 = .ok (.aload_n 0, 1) := by decide +kernel
theorem dX3_readDrift_19 : decode cX3_readDrift 19 = .ok (.iconst 0, 1) := by decide +kernel
theorem dX3_readDrift_20 : decode cX3_readDrift 20 = .ok (.bipush 9, 2) := by decide +kernel
theorem dX3_readDrift_22 : decode cX3_readDrift 22 = .ok (.invokevirtual 80, 3) := by decide +kernel
theorem dX3_readDrift_25 : decode cX3_readDrift 25 = .ok (.ifCond .ne 5, 3) := by decide +kernel
theorem dX3_readDrift_28 : decode cX3_readDrift 28 = .ok (.iconst 0, 1) := by decide +kernel
theorem dX3_readDrift_29 : decode cX3_readDrift 29 = .ok (.ireturn, 1) := by decide +kernel
theorem dX3_readDrift_30 : decode cX3_readDrift 30 = .ok (.aload_n 1, 1) := by decide +kernel
theorem dX3_readDrift_31 : decode cX3_readDrift 31 = .ok (.iload_n 2, 1) := by decide +kernel
theorem dX3_readDrift_32 : decode cX3_readDrift 32 = .ok (.ifCond .eq 11, 3) := by decide +kernel
theorem dX3_readDrift_35 : decode cX3_readDrift 35 = .ok (.aload_n 0, 1) := by decide +kernel
theorem dX3_readDrift_36 : decode cX3_readDrift 36 = .ok (.getfield 83, 3) := by decide +kernel
theorem dX3_readDrift_39 : decode cX3_readDrift 39 = .ok (.ineg, 1) := by decide +kernel
theorem dX3_readDrift_40 : decode cX3_readDrift 40 = .ok (.goto 7, 3) := by decide +kernel
theorem dX3_readDrift_43 : decode cX3_readDrift 43 = .ok (.aload_n 0, 1) := by decide +kernel
theorem dX3_readDrift_44 : decode cX3_readDrift 44 = .ok (.getfield 83, 3) := by decide +kernel
theorem dX3_readDrift_47 : decode cX3_readDrift 47 = .ok (.putfield 86, 3) := by decide +kernel
theorem dX3_readDrift_50 : decode cX3_readDrift 50 = .ok (.aload_n 0, 1) := by decide +kernel
theorem dX3_readDrift_51 : decode cX3_readDrift 51 = .ok (.invokevirtual 64, 3) := by decide +kernel
theorem dX3_readDrift_54 : decode cX3_readDrift 54 = .ok (.ireturn, 1) := by decide +kernel
theorem eX3_readDrift {W : zWd} {B : Nat → Int} {N p : Nat} {a : Int → Int}  {Q : Option Value → zWd → Prop} {X : zX} (hR : zRd W B N p) (hC : zCP W 8 a) (hq : zRQ W B N (sDrift B N p a) Q) : Ev MX3_readDrift 6 0 W [.ref 112, .ref 8] Q X := by
  refine ev_of (ls := [.ref 112, .ref 8, .null]) (by decide) rfl (fun _ => rfl) (fun _ => Nat.le_of_ble_eq_true rfl) (Or.inl rfl) ?_
  refine rr_aload_n (pc := 0) dX3_readDrift_0 rfl ?_
  refine rr_ldcs (pc := 1) 3 dX3_readDrift_1 rfl ?_
  refine rr_inv0 (M' := MX3_takeWord) (k := 112) (As := [_]) (pc := 3) dX3_readDrift_3 lX3_46 kX3_takeWord vX3_takeWord zk_112 (by decide) rfl (by decide) (by decide) (Nat.le_of_ble_eq_true rfl) rfl (eX3_takeWord (i := 3) zS_3 zO_3 hR (fun k0 => ?_) (fun k0 W0 o0 f0 r0 => ?_))
  · refine rr_if_ne (pc := 6) (tgt := 11) dX3_readDrift_6 (by decide) (by unfold zR; omega) (fun h => by omega) (fun h => ?_)
    refine rr_iconst (n := 1) dX3_readDrift_9 ?_
    exact rr_reti (pc := 10) dX3_readDrift_10 rfl rfl rfl rfl (hq.g (if_neg k0) zOffq.rf hR rfl hC)
  · refine rr_if_ne (pc := 6) (tgt := 11) dX3_readDrift_6 (by decide) (by unfold zR; omega) (fun h => ?_) (fun h => by omega)
    refine rr_aload_n (pc := 11) dX3_readDrift_11 rfl ?_
    refine rr_bipush (n := (45)) dX3_readDrift_12 ?_
    refine rr_inv0 (M' := MX3_takeSign) (k := 112) (As := [_]) (pc := 14) dX3_readDrift_14 lX3_76 kX3_takeSign vX3_takeSign zk_112 (by decide) rfl (by decide) (by decide) (Nat.le_of_ble_eq_true rfl) rfl (eX3_takeSign (by omega) (by omega) r0 (fun k1 => ?_) (fun k1 W1 o1 f1 r1 => ?_))
    · refine rr_istore_n (pc := 17) dX3_readDrift_17 (by decide) ?_
      have o1 : zOffr W0 W0 := zOffr.rf
      have f1 : ∀ j : Int, j ≠ 2 → j ≠ 3 → W0 112 j = W0 112 j := fun _ _ _ => rfl
      refine rr_aload_n (pc := 18) dX3_readDrift_18 rfl ?_
      refine rr_iconst (n := 0) dX3_readDrift_19 ?_
      refine rr_bipush (n := (9)) dX3_readDrift_20 ?_
      refine rr_inv0 (M' := MX3_readNumber) (k := 112) (As := [_, _]) (pc := 22) dX3_readDrift_22 lX3_80 kX3_readNumber vX3_readNumber zk_112 (by decide) rfl (by decide) (by decide) (Nat.le_of_ble_eq_true rfl) rfl (eX3_readNumber (by unfold zR; omega) (by unfold zR; omega) r0 (fun c hn2 W2 o2 f52 f62 => ?_) (fun p2 v2 hn2 W2 o2 f2 r2 e42 => ?_))
      · refine rr_if_ne (pc := 25) (tgt := 30) dX3_readDrift_25 (by decide) (by unfold zR; omega) (fun h => by omega) (fun h => ?_)
        refine rr_iconst (n := 0) dX3_readDrift_28 ?_
        exact rr_reti (pc := 29) dX3_readDrift_29 rfl rfl rfl rfl (hq.e (by unfold sDrift; rw [if_pos k0, if_neg k1, hn2]) (o0.tr o2).q ((o0.tr o2).cp hC).by f52 f62)
      · refine rr_if_ne (pc := 25) (tgt := 30) dX3_readDrift_25 (by decide) (by unfold zR; omega) (fun h => ?_) (fun h => by omega)
        refine rr_aload_n (pc := 30) dX3_readDrift_30 rfl ?_
        refine rr_iload_n (pc := 31) dX3_readDrift_31 rfl ?_
        refine rr_if_eq (pc := 32) (tgt := 43) dX3_readDrift_32 (by decide) (by unfold zR; omega) (fun h => ?_) (fun h => by omega)
        refine rr_aload_n (pc := 43) dX3_readDrift_43 rfl ?_
        refine rr_getI (pc := 44) (ji := 4) dX3_readDrift_44 fX3_83 zk_112 zr_112_4 rfl ?_
        rw [e42]
        have hv := sNr_in hn2
        have oA := o0.tr o2
        have eA : W2 112 6 = W 112 6 := (f2 6 (by decide) (by decide) (by decide)).trans (f0 6 (by decide) (by decide))
        refine rr_put (pc := 47) (ji := 3) dX3_readDrift_47 fX3_86 fp_0_3 zCt_8.k zCt_8.i3 rfl ?_
        have c3 := CP_3 (v := v2) (oA.cp hC) (by omega) (by omega)
        have o3 : zOff 8 W2 (zup W2 8 3 v2) := zOff.rf.up (by omega)
        generalize zup W2 8 3 v2 = W3 at c3 o3 ⊢
        refine rr_aload_n (pc := 50) dX3_readDrift_50 rfl ?_
        refine rr_inv0 (M' := MX3_readSemicolon) (k := 112) (As := []) (pc := 51) dX3_readDrift_51 lX3_64 kX3_readSemicolon vX3_readSemicolon zk_112 (by decide) rfl (by decide) (by decide) (Nat.le_of_ble_eq_true rfl) rfl (eX3_readSemicolon (o3.rd r2) c3 (zRQ.of (hq.from (r' := sSemi B N p2 (iup a 3 v2)) (by unfold sDrift; rw [if_pos k0, if_neg k1, hn2]) (oA.q.tr o3.q) (o3.rd6.trans eA)) (fun W4 hz => ?_) (fun W4 hz => ?_)))
        · exact rr_reti (pc := 54) dX3_readDrift_54 rfl rfl rfl rfl (hz)
        · exact rr_reti (pc := 54) dX3_readDrift_54 rfl rfl rfl rfl (hz)
    · refine rr_istore_n (pc := 17) dX3_readDrift_17 (by decide) ?_
      refine rr_aload_n (pc := 18) dX3_readDrift_18 rfl ?_
      refine rr_iconst (n := 0) dX3_readDrift_19 ?_
      refine rr_bipush (n := (9)) dX3_readDrift_20 ?_
      refine rr_inv0 (M' := MX3_readNumber) (k := 112) (As := [_, _]) (pc := 22) dX3_readDrift_22 lX3_80 kX3_readNumber vX3_readNumber zk_112 (by decide) rfl (by decide) (by decide) (Nat.le_of_ble_eq_true rfl) rfl (eX3_readNumber (by unfold zR; omega) (by unfold zR; omega) r1 (fun c hn2 W2 o2 f52 f62 => ?_) (fun p2 v2 hn2 W2 o2 f2 r2 e42 => ?_))
      · refine rr_if_ne (pc := 25) (tgt := 30) dX3_readDrift_25 (by decide) (by unfold zR; omega) (fun h => by omega) (fun h => ?_)
        refine rr_iconst (n := 0) dX3_readDrift_28 ?_
        exact rr_reti (pc := 29) dX3_readDrift_29 rfl rfl rfl rfl (hq.e (by unfold sDrift; rw [if_pos k0, if_pos k1, hn2]) ((o0.tr o1).tr o2).q (((o0.tr o1).tr o2).cp hC).by f52 f62)
      · refine rr_if_ne (pc := 25) (tgt := 30) dX3_readDrift_25 (by decide) (by unfold zR; omega) (fun h => ?_) (fun h => by omega)
        refine rr_aload_n (pc := 30) dX3_readDrift_30 rfl ?_
        refine rr_iload_n (pc := 31) dX3_readDrift_31 rfl ?_
        refine rr_if_eq (pc := 32) (tgt := 43) dX3_readDrift_32 (by decide) (by unfold zR; omega) (fun h => by omega) (fun h => ?_)
        refine rr_aload_n (pc := 35) dX3_readDrift_35 rfl ?_
        refine rr_getI (pc := 36) (ji := 4) dX3_readDrift_36 fX3_83 zk_112 zr_112_4 rfl ?_
        rw [e42]
        refine rr_ineg (pc := 39) dX3_readDrift_39 ?_
        refine rr_goto (pc := 40) (tgt := 47) dX3_readDrift_40 (by decide) ?_
        have hv := sNr_in hn2
        have oA := (o0.tr o1).tr o2
        have eA : W2 112 6 = W 112 6 := (f2 6 (by decide) (by decide) (by decide)).trans ((f1 6 (by decide) (by decide)).trans (f0 6 (by decide) (by decide)))
        refine rr_put (pc := 47) (ji := 3) dX3_readDrift_47 fX3_86 fp_0_3 zCt_8.k zCt_8.i3 rfl ?_
        have c3 := CP_3 (v := -v2) (oA.cp hC) (by omega) (by omega)
        have o3 : zOff 8 W2 (zup W2 8 3 (-v2)) := zOff.rf.up (by omega)
        generalize zup W2 8 3 (-v2) = W3 at c3 o3 ⊢
        refine rr_aload_n (pc := 50) dX3_readDrift_50 rfl ?_
        refine rr_inv0 (M' := MX3_readSemicolon) (k := 112) (As := []) (pc := 51) dX3_readDrift_51 lX3_64 kX3_readSemicolon vX3_readSemicolon zk_112 (by decide) rfl (by decide) (by decide) (Nat.le_of_ble_eq_true rfl) rfl (eX3_readSemicolon (o3.rd r2) c3 (zRQ.of (hq.from (r' := sSemi B N p2 (iup a 3 (-v2))) (by unfold sDrift; rw [if_pos k0, if_pos k1, hn2]) (oA.q.tr o3.q) (o3.rd6.trans eA)) (fun W4 hz => ?_) (fun W4 hz => ?_)))
        · exact rr_reti (pc := 54) dX3_readDrift_54 rfl rfl rfl rfl (hz)
        · exact rr_reti (pc := 54) dX3_readDrift_54 rfl rfl rfl rfl (hz)
