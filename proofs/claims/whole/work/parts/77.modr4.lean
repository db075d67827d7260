theorem zPf_3 {a : Int → Int} {v : Int} (h : zPf a) (h0 : -9 ≤ v) (h1 : v ≤ 9) : zPf (iup a 3 v) := by
  have na : ∀ i : Int, i ≠ 3 → iup a 3 v i = a i := fun i hi => iup_n hi
  obtain ⟨p0, p0', pW, p1, p2, p2', p3, p3', p4, p5, p6, p7, pS, pP⟩ := id h
  unfold zPf
  rw [na 0 (by decide), na 1 (by decide), na 2 (by decide), na 4 (by decide), na 5 (by decide), na 6 (by decide), na 7 (by decide), iup_s, aF_cg (a := a) (fun j g1 g2 => na j (by omega)) _ (by omega)]
  refine ⟨p0, p0', fun r g1 g2 => by rw [na _ (by omega)]; exact pW r g1 g2, p1, p2, p2', h0, h1, p4, p5, p6, p7, fun s g1 g2 => ?_, fun p g1 g2 => ?_⟩
  · have := pS s g1 g2
    unfold aO aL at *
    rw [na _ (by omega), na _ (by omega)]; exact this
  · have := pP p g1 g2
    unfold zWfP aP at *
    rw [na 1 (by decide), na _ (by omega), na _ (by omega), na _ (by omega), na _ (by omega), na _ (by omega), na _ (by omega), na _ (by omega), na _ (by omega), na _ (by omega)]
    exact this
theorem zPf_P {a : Int → Int} {p w v' : Int} (h : zPf a) (hp0 : 0 ≤ p) (hv : zWr 0 a w v') : zPf (iup a (58 + 17 * p + w) v') := by
  have hw : 0 ≤ w ∧ w ≤ 8 := by unfold zWr at hv; omega
  have na : ∀ i : Int, i < 58 → iup a (58 + 17 * p + w) v' i = a i := fun i hi => iup_n (by omega)
  obtain ⟨p0, p0', pW, p1, p2, p2', p3, p3', p4, p5, p6, p7, pS, pP⟩ := id h
  unfold zPf
  rw [na 0 (by decide), na 1 (by decide), na 2 (by decide), na 3 (by decide), na 4 (by decide), na 5 (by decide), na 6 (by decide), na 7 (by decide), aF_cg (a := a) (fun j g1 g2 => na j (by omega)) _ (by omega)]
  refine ⟨p0, p0', fun r g1 g2 => by rw [na _ (by omega)]; exact pW r g1 g2, p1, p2, p2', p3, p3', p4, p5, p6, p7, fun s g1 g2 => ?_, fun p' g1 g2 => ?_⟩
  · have := pS s g1 g2
    unfold aO aL at *
    rw [na _ (by omega), na _ (by omega)]; exact this
  · have h9 := pP p' g1 g2
    unfold zWfP at h9 ⊢
    rw [na 1 (by omega)]
    unfold zWr at hv
    by_cases hpp : p' = p
    · subst hpp
      unfold aP at h9 ⊢
      simp only [iup]
      refine ⟨?_, ?_, ?_, ?_, ?_, ?_, ?_, ?_, ?_, ?_, ?_, ?_, ?_, ?_, ?_, ?_, ?_, ?_⟩
      all_goals (split <;> omega)
    · have ea : ∀ k : Int, 0 ≤ k → k ≤ 8 → aP (iup a (58 + 17 * p + w) v') p' k = aP a p' k := fun k h1 h2 => by unfold aP; exact iup_n (by omega)
      rw [ea 0 (by omega) (by omega), ea 1 (by omega) (by omega), ea 2 (by omega) (by omega), ea 3 (by omega) (by omega), ea 4 (by omega) (by omega), ea 5 (by omega) (by omega), ea 6 (by omega) (by omega), ea 7 (by omega) (by omega), ea 8 (by omega) (by omega)]
      exact h9
theorem zPf_S {a : Int → Int} {s v : Int} (h : zPf a) (h1 : 1 ≤ s) (h2 : s ≤ a 1) (h0 : 0 ≤ v) (hv : v < a 2) : zPf (iup a (18 + 2 * (s - 1) + (0 : Nat)) (v + 1)) := by
  have hsq := h.sq
  have hp0 := h.2.1
  have na : ∀ i : Int, i < 18 ∨ 58 ≤ i → iup a (18 + 2 * (s - 1) + (0 : Nat)) (v + 1) i = a i := fun i hi => iup_n (by omega)
  obtain ⟨p0, p0', pW, p1, p2, p2', p3, p3', p4, p5, p6, p7, pS, pP⟩ := id h
  unfold zPf
  rw [na 0 (by omega), na 1 (by omega), na 2 (by omega), na 3 (by omega), na 4 (by omega), na 5 (by omega), na 6 (by omega), na 7 (by omega), aF_cg (a := a) (fun j g1 g2 => na j (by omega)) _ (by omega)]
  refine ⟨p0, p0', fun r g1 g2 => by rw [na _ (by omega)]; exact pW r g1 g2, p1, p2, p2', p3, p3', p4, p5, p6, p7, fun s' g1 g2 => ?_, fun p g1 g2 => ?_⟩
  · have := pS s' g1 g2
    have eL : aL (iup a (18 + 2 * (s - 1) + (0 : Nat)) (v + 1)) s' = aL a s' := by unfold aL; exact iup_n (by omega)
    rw [eL]
    by_cases q : s' = s
    · subst q
      have eO : aO (iup a (18 + 2 * (s' - 1) + (0 : Nat)) (v + 1)) s' = v := by unfold aO iup; rw [if_pos (by omega)]; omega
      rw [eO]; omega
    · have eO : aO (iup a (18 + 2 * (s - 1) + (0 : Nat)) (v + 1)) s' = aO a s' := by unfold aO; rw [iup_n (by omega)]
      rw [eO]; exact this
  · have := pP p g1 g2
    unfold zWfP aP at *
    rw [na 1 (by omega), na _ (by omega), na _ (by omega), na _ (by omega), na _ (by omega), na _ (by omega), na _ (by omega), na _ (by omega), na _ (by omega), na _ (by omega)]
    exact this
theorem zPf_L {a : Int → Int} {p k v : Int} (h : zPf a) (hp0 : 0 ≤ p) (hk : 0 ≤ k) (hk8 : k < 8) : zPf (iup a (58 + 17 * p + (9 + k)) v) := by
  have na : ∀ i : Int, i < 58 → iup a (58 + 17 * p + (9 + k)) v i = a i := fun i hi => iup_n (by omega)
  obtain ⟨p0, p0', pW, p1, p2, p2', p3, p3', p4, p5, p6, p7, pS, pP⟩ := id h
  unfold zPf
  rw [na 0 (by decide), na 1 (by decide), na 2 (by decide), na 3 (by decide), na 4 (by decide), na 5 (by decide), na 6 (by decide), na 7 (by decide), aF_cg (a := a) (fun j g1 g2 => na j (by omega)) _ (by omega)]
  refine ⟨p0, p0', fun r g1 g2 => by rw [na _ (by omega)]; exact pW r g1 g2, p1, p2, p2', p3, p3', p4, p5, p6, p7, fun s g1 g2 => ?_, fun p' g1 g2 => ?_⟩
  · have := pS s g1 g2
    unfold aO aL at *
    rw [na _ (by omega), na _ (by omega)]; exact this
  · have h9 := pP p' g1 g2
    have ea : ∀ w : Int, 0 ≤ w → w ≤ 8 → aP (iup a (58 + 17 * p + (9 + k)) v) p' w = aP a p' w := fun w h1 h2 => by unfold aP; exact iup_n (by omega)
    unfold zWfP at h9 ⊢
    rw [na 1 (by omega), ea 0 (by omega) (by omega), ea 1 (by omega) (by omega), ea 2 (by omega) (by omega), ea 3 (by omega) (by omega), ea 4 (by omega) (by omega), ea 5 (by omega) (by omega), ea 6 (by omega) (by omega), ea 7 (by omega) (by omega), ea 8 (by omega) (by omega)]
    exact h9
def aNewP (a : Int → Int) (p : Int) : Int → Int := fun j => if 58 + 17 * p ≤ j ∧ j < 58 + 17 * p + 17 then (if j = 58 + 17 * p then 2 else if j = 58 + 17 * p + 1 then 3 else if j = 58 + 17 * p + 2 then 1 else 0) else a j
def aZr (a : Int → Int) (i n : Int) : Int → Int := fun j => if i ≤ j ∧ j < i + n then 0 else a j
theorem aZr_0 {a : Int → Int} {i : Int} : aZr a i 0 = a := by funext j; unfold aZr; rw [if_neg (by omega)]
theorem aZr_s {a : Int → Int} {i n : Int} (h : 0 ≤ n) : iup (aZr a i n) (i + n) 0 = aZr a i (n + 1) := by
  funext j; unfold iup aZr
  by_cases z : j = i + n
  · rw [if_pos z, if_pos (by omega)]
  · rw [if_neg z]
    by_cases y : i ≤ j ∧ j < i + n
    · rw [if_pos y, if_pos (by omega)]
    · rw [if_neg y, if_neg (by omega)]
theorem aNewP_eq {a : Int → Int} {p : Int} : iup (iup (iup (aZr a (58 + 17 * p) 17) (58 + 17 * p + 0) 2) (58 + 17 * p + 1) 3) (58 + 17 * p + 2) 1 = aNewP a p := by
  funext j; unfold iup aZr aNewP
  (repeat' split) <;> first | rfl | omega
theorem dX7_begins_0 : decode cX7_begins 0 = .ok (.iconst 0, 1) := by decide +kernel
theorem dX7_begins_1 : decode cX7_begins 1 = .ok (.istore_n 1, 1) := by decide +kernel
theorem dX7_begins_2 : decode cX7_begins 2 = .ok (.iload_n 1, 1) := by decide +kernel
theorem dX7_begins_3 : decode cX7_begins 3 = .ok (.sipush 160, 3) := by decide +kernel
theorem dX7_begins_6 : decode cX7_begins 6 = .ok (.if_icmp .ge 16, 3) := by decide +kernel
theorem dX7_begins_9 : decode cX7_begins 9 = .ok (.aload_n 0, 1) := by decide +kernel
theorem dX7_begins_10 : decode cX7_begins 10 = .ok (.getfield 7, 3) := by decide +kernel
theorem dX7_begins_13 : decode cX7_begins 13 = .ok (.iload_n 1, 1) := by decide +kernel
theorem dX7_begins_14 : decode cX7_begins 14 = .ok (.iconst 0, 1) := by decide +kernel
theorem dX7_begins_15 : decode cX7_begins 15 = .ok (.iastore, 1) := by decide +kernel
theorem dX7_begins_16 : decode cX7_begins 16 = .ok (.iinc 1 1, 3) := by decide +kernel
theorem dX7_begins_19 : decode cX7_begins 19 = .ok (.goto (-17), 3) := by decide +kernel
theorem dX7_begins_22 : decode cX7_begins 22 = .ok (.return_, 1) := by decide +kernel
theorem eX7_begins {W : zWd}  {Q : Option Value → zWd → Prop} {X : zX} (hq : ∀ W' : zWd, zOfm W W' → (∀ j : Int, 0 ≤ j → j < 160 → W' 117 j = 0) → Q none W') : Ev MX7_begins 0 0 W [.ref 116] Q X := by
  refine ev_of (ls := [.ref 116, .null]) (by decide) rfl (fun _ => rfl) (fun _ => Nat.le_of_ble_eq_true rfl) (Or.inl rfl) ?_
  have loop : ∀ (n : Nat) (i : Int) (Wi : zWd), 0 ≤ i → i ≤ 160 → zOfm W Wi → Wi 117 = aZr (W 117) 0 i → (160 - i).toNat < n → RR MX7_begins 0 0 Wi 2 [.ref 116, zI i] [] (zEnd MX7_begins Q X) X := by
    intro n
    induction n with
    | zero => intro i Wi _ _ _ _ hm9; omega
    | succ n ih =>
      intro i Wi h1 h2 hO e7 hm9
      refine rr_iload_n (pc := 2) dX7_begins_2 rfl ?_
      refine rr_sipush (n := (160)) dX7_begins_3 ?_
      refine rr_icmp_ge (pc := 6) (tgt := 22) dX7_begins_6 (by decide) (by unfold zR; omega) (by unfold zR; omega) (fun h6 => ?_) (fun h6 => ?_)
      · exact rr_retv (pc := 22) dX7_begins_22 rfl rfl (hq Wi hO (fun j g1 g2 => by rw [e7]; unfold aZr; rw [if_pos (by omega)]))
      · refine rr_aload_n (pc := 9) dX7_begins_9 rfl ?_
        refine rr_getR (pc := 10) dX7_begins_10 fX7_7 zk_116 zr_116_0 ?_
        refine rr_iload_n (pc := 13) dX7_begins_13 rfl ?_
        refine rr_iconst (n := 0) dX7_begins_14 ?_
        refine rr_iast (pc := 15) dX7_begins_15 zk_117 (by omega) (by omega) ?_
        refine rr_iinc (pc := 16) dX7_begins_16 rfl (by decide) ?_
        refine rr_goto (pc := 19) (tgt := 2) dX7_begins_19 (by decide) ?_
        exact ih (i + 1) _ (by omega) (by omega) hO.up (by have h9 := aZr_s (a := W 117) (i := 0) h1; rw [Int.zero_add] at h9; rw [zup_at, e7]; exact h9) (by omega)
  refine rr_iconst (n := 0) dX7_begins_0 ?_
  refine rr_istore_n (pc := 1) dX7_begins_1 (by decide) ?_
  exact loop _ 0 W (by omega) (by omega) zOfm.rf aZr_0.symm (Nat.lt_succ_self _)
theorem dX7_beginsPlayer_0 : decode cX7_beginsPlayer 0 = .ok (.iconst 0, 1) := by decide +kernel
theorem dX7_beginsPlayer_1 : decode cX7_beginsPlayer 1 = .ok (.istore_n 2, 1) := by decide +kernel
theorem dX7_beginsPlayer_2 : decode cX7_beginsPlayer 2 = .ok (.iload_n 2, 1) := by decide +kernel
theorem dX7_beginsPlayer_3 : decode cX7_beginsPlayer 3 = .ok (.bipush 17, 2) := by decide +kernel
theorem dX7_beginsPlayer_5 : decode cX7_beginsPlayer 5 = .ok (.if_icmp .ge 16, 3) := by decide +kernel
theorem dX7_beginsPlayer_8 : decode cX7_beginsPlayer 8 = .ok (.aload_n 0, 1) := by decide +kernel
theorem dX7_beginsPlayer_9 : decode cX7_beginsPlayer 9 = .ok (.iload_n 1, 1) := by decide +kernel
theorem dX7_beginsPlayer_10 : decode cX7_beginsPlayer 10 = .ok (.iload_n 2, 1) := by decide +kernel
theorem dX7_beginsPlayer_11 : decode cX7_beginsPlayer 11 = .ok (.iconst 0, 1) := by decide +kernel
theorem dX7_beginsPlayer_12 : decode cX7_beginsPlayer 12 = .ok (.invokevirtual 55, 3) := by decide +kernel
theorem dX7_beginsPlayer_15 : decode cX7_beginsPlayer 15 = .ok (.iinc 2 1, 3) := by decide +kernel
theorem dX7_beginsPlayer_18 : decode cX7_beginsPlayer 18 = .ok (.goto (-16), 3) := by decide +kernel
theorem dX7_beginsPlayer_21 : decode cX7_beginsPlayer 21 = .ok (.aload_n 0, 1) := by decide +kernel
theorem dX7_beginsPlayer_22 : decode cX7_beginsPlayer 22 = .ok (.iload_n 1, 1) := by decide +kernel
theorem dX7_beginsPlayer_23 : decode cX7_beginsPlayer 23 = .ok (.iconst 0, 1) := by decide +kernel
theorem dX7_beginsPlayer_24 : decode cX7_beginsPlayer 24 = .ok (.iconst 2, 1) := by decide +kernel
theorem dX7_beginsPlayer_25 : decode cX7_beginsPlayer 25 = .ok (.invokevirtual 55, 3) := by decide +kernel
theorem dX7_beginsPlayer_28 : decode cX7_beginsPlayer 28 = .ok (.aload_n 0, 1) := by decide +kernel
theorem dX7_beginsPlayer_29 : decode cX7_beginsPlayer 29 = .ok (.iload_n 1, 1) := by decide +kernel
theorem dX7_beginsPlayer_30 : decode cX7_beginsPlayer 30 = .ok (.iconst 1, 1) := by decide +kernel
theorem dX7_beginsPlayer_31 : decode cX7_beginsPlayer 31 = .ok (.iconst 3, 1) := by decide +kernel
theorem dX7_beginsPlayer_32 : decode cX7_beginsPlayer 32 = .ok (.invokevirtual 55, 3) := by decide +kernel
theorem dX7_beginsPlayer_35 : decode cX7_beginsPlayer 35 = .ok (.aload_n 0, 1) := by decide +kernel
theorem dX7_beginsPlayer_36 : decode cX7_beginsPlayer 36 = .ok (.iload_n 1, 1) := by decide +kernel
theorem dX7_beginsPlayer_37 : decode cX7_beginsPlayer 37 = .ok (.iconst 2, 1) := by decide +kernel
theorem dX7_beginsPlayer_38 : decode cX7_beginsPlayer 38 = .ok (.iconst 1, 1) := by decide +kernel
theorem dX7_beginsPlayer_39 : decode cX7_beginsPlayer 39 = .ok (.invokevirtual 55, 3) := by decide +kernel
theorem dX7_beginsPlayer_42 : decode cX7_beginsPlayer 42 = .ok (.return_, 1) := by decide +kernel
theorem eX7_beginsPlayer {W : zWd} {p : Int}  {Q : Option Value → zWd → Prop} {X : zX} (hp0 : 0 ≤ p) (hp1 : p < 6) (hq : ∀ W' : zWd, zOfm W W' → W' 117 = aNewP (W 117) p → Q none W') : Ev MX7_beginsPlayer 1 0 W [.ref 116, zI p] Q X := by
  refine ev_of (ls := [.ref 116, zI p, .null]) (by decide) rfl (fun _ => rfl) (fun _ => Nat.le_of_ble_eq_true rfl) (Or.inl rfl) ?_
  have loop : ∀ (n : Nat) (i : Int) (Wi : zWd), 0 ≤ i → i ≤ 17 → zOfm W Wi → Wi 117 = aZr (W 117) (58 + 17 * p) i → (17 - i).toNat < n → RR MX7_beginsPlayer 1 0 Wi 2 [.ref 116, zI p, zI i] [] (zEnd MX7_beginsPlayer Q X) X := by
    intro n
    induction n with
    | zero => intro i Wi _ _ _ _ hm9; omega
    | succ n ih =>
      intro i Wi h1 h2 hO e7 hm9
      refine rr_iload_n (pc := 2) dX7_beginsPlayer_2 rfl ?_
      refine rr_bipush (n := (17)) dX7_beginsPlayer_3 ?_
      refine rr_icmp_ge (pc := 5) (tgt := 21) dX7_beginsPlayer_5 (by decide) (by unfold zR; omega) (by unfold zR; omega) (fun h5 => ?_) (fun h5 => ?_)
      · refine rr_aload_n (pc := 21) dX7_beginsPlayer_21 rfl ?_
        refine rr_iload_n (pc := 22) dX7_beginsPlayer_22 rfl ?_
        refine rr_iconst (n := 0) dX7_beginsPlayer_23 ?_
        refine rr_iconst (n := 2) dX7_beginsPlayer_24 ?_
        rw [show i = 17 by omega] at e7
        refine rr_inv0 (M' := MX7_sets) (k := 116) (As := [_, _, _]) (pc := 25) dX7_beginsPlayer_25 lX7_55 kX7_sets vX7_sets zk_116 (by decide) rfl (by decide) (by decide) (Nat.le_of_ble_eq_true rfl) rfl (eX7_sets (by omega) (by omega) (by omega) (by omega) ?_)
        refine rr_aload_n (pc := 28) dX7_beginsPlayer_28 rfl ?_
        refine rr_iload_n (pc := 29) dX7_beginsPlayer_29 rfl ?_
        refine rr_iconst (n := 1) dX7_beginsPlayer_30 ?_
        refine rr_iconst (n := 3) dX7_beginsPlayer_31 ?_
        refine rr_inv0 (M' := MX7_sets) (k := 116) (As := [_, _, _]) (pc := 32) dX7_beginsPlayer_32 lX7_55 kX7_sets vX7_sets zk_116 (by decide) rfl (by decide) (by decide) (Nat.le_of_ble_eq_true rfl) rfl (eX7_sets (by omega) (by omega) (by omega) (by omega) ?_)
        refine rr_aload_n (pc := 35) dX7_beginsPlayer_35 rfl ?_
        refine rr_iload_n (pc := 36) dX7_beginsPlayer_36 rfl ?_
        refine rr_iconst (n := 2) dX7_beginsPlayer_37 ?_
        refine rr_iconst (n := 1) dX7_beginsPlayer_38 ?_
        refine rr_inv0 (M' := MX7_sets) (k := 116) (As := [_, _, _]) (pc := 39) dX7_beginsPlayer_39 lX7_55 kX7_sets vX7_sets zk_116 (by decide) rfl (by decide) (by decide) (Nat.le_of_ble_eq_true rfl) rfl (eX7_sets (by omega) (by omega) (by omega) (by omega) ?_)
        exact rr_retv (pc := 42) dX7_beginsPlayer_42 rfl rfl (hq _ hO.up.up.up (by rw [zup_at, zup_at, zup_at, e7]; exact aNewP_eq))
      · refine rr_aload_n (pc := 8) dX7_beginsPlayer_8 rfl ?_
        refine rr_iload_n (pc := 9) dX7_beginsPlayer_9 rfl ?_
        refine rr_iload_n (pc := 10) dX7_beginsPlayer_10 rfl ?_
        refine rr_iconst (n := 0) dX7_beginsPlayer_11 ?_
        refine rr_inv0 (M' := MX7_sets) (k := 116) (As := [_, _, _]) (pc := 12) dX7_beginsPlayer_12 lX7_55 kX7_sets vX7_sets zk_116 (by decide) rfl (by decide) (by decide) (Nat.le_of_ble_eq_true rfl) rfl (eX7_sets (by omega) (by omega) (by omega) (by omega) ?_)
        refine rr_iinc (pc := 15) dX7_beginsPlayer_15 rfl (by decide) ?_
        refine rr_goto (pc := 18) (tgt := 2) dX7_beginsPlayer_18 (by decide) ?_
        exact ih (i + 1) _ (by omega) (by omega) hO.up (by rw [zup_at, e7, aZr_s h1]) (by omega)
  refine rr_iconst (n := 0) dX7_beginsPlayer_0 ?_
  refine rr_istore_n (pc := 1) dX7_beginsPlayer_1 (by decide) ?_
  exact loop _ 0 W (by omega) (by omega) zOfm.rf aZr_0.symm (Nat.lt_succ_self _)
def nLt (B : Nat → Int) (N p : Nat) (k : Int) : Int := if p + k < sEd B N p then B (p + k.toNat) else 0
def isNm (B : Nat → Int) (N p : Nat) (a : Int → Int) (q : Int) : Bool := (List.range 8).all (fun k : Nat => decide (aP a q (9 + (k : Int)) = nLt B N p k))
theorem isNm_iff {B : Nat → Int} {N p : Nat} {a : Int → Int} {q : Int} : isNm B N p a q = true ↔ ∀ k : Int, 0 ≤ k → k < 8 → aP a q (9 + k) = nLt B N p k := by
  unfold isNm
  rw [List.all_eq_true]
  constructor
  · intro h k h0 h1
    have h9 := of_decide_eq_true (h k.toNat (List.mem_range.mpr (by omega)))
    rw [show ((k.toNat : Nat) : Int) = k by omega] at h9
    exact h9
  · intro h k hk
    have := List.mem_range.mp hk
    exact decide_eq_true (h k (by omega) (by omega))
theorem dX7_isName_0 : decode cX7_isName 0 = .ok (.iconst 0, 1) := by decide +kernel
theorem dX7_isName_1 : decode cX7_isName 1 = .ok (.istore_n 2, 1) := by decide +kernel
theorem dX7_isName_2 : decode cX7_isName 2 = .ok (.iload_n 2, 1) := by decide +kernel
theorem dX7_isName_3 : decode cX7_isName 3 = .ok (.bipush 8, 2) := by decide +kernel
theorem dX7_isName_5 : decode cX7_isName 5 = .ok (.if_icmp .ge 51, 3) := by decide +kernel
theorem dX7_isName_8 : decode cX7_isName 8 = .ok (.aload_n 0, 1) := by decide +kernel
theorem dX7_isName_9 : decode cX7_isName 9 = .ok (.iload_n 1, 1) := by decide +kernel
theorem dX7_isName_10 : decode cX7_isName 10 = .ok (.bipush 9, 2) := by decide +kernel
theorem dX7_isName_12 : decode cX7_isName 12 = .ok (.iload_n 2, 1) := by decide +kernel
theorem dX7_isName_13 : decode cX7_isName 13 = .ok (.iadd, 1) := by decide +kernel
theorem dX7_isName_14 : decode cX7_isName 14 = .ok (.invokevirtual 154, 3) := by decide +kernel
theorem dX7_isName_17 : decode cX7_isName 17 = .ok (.aload_n 0, 1) := by decide +kernel
theorem dX7_isName_18 : decode cX7_isName 18 = .ok (.getfield 91, 3) := by decide +kernel
theorem dX7_isName_21 : decode cX7_isName 21 = .ok (.iload_n 2, 1) := by decide +kernel
theorem dX7_isName_22 : decode cX7_isName 22 = .ok (.iadd, 1) := by decide +kernel
theorem dX7_isName_23 : decode cX7_isName 23 = .ok (.aload_n 0, 1) := by decide +kernel
theorem dX7_isName_24 : decode cX7_isName 24 = .ok (.getfield 88, 3) := by decide +kernel
theorem dX7_isName_27 : decode cX7_isName 27 = .ok (.if_icmp .ge 17, 3) := by decide +kernel
theorem dX7_isName_30 : decode cX7_isName 30 = .ok (.aload_n 0, 1) := by decide +kernel
theorem dX7_isName_31 : decode cX7_isName 31 = .ok (.getfield 29, 3) := by decide +kernel
theorem dX7_isName_34 : decode cX7_isName 34 = .ok (.aload_n 0, 1) := by decide +kernel
theorem dX7_isName_35 : decode cX7_isName 35 = .ok (.getfield 91, 3) := by decide +kernel
theorem dX7_isName_38 : decode cX7_isName 38 = .ok (.iload_n 2, 1) := by decide +kernel
theorem dX7_isName_39 : decode cX7_isName 39 = .ok (.iadd, 1) := by decide +kernel
theorem dX7_isName_40 : decode cX7_isName 40 = .ok (.iaload, 1) := by decide +kernel
theorem dX7_isName_41 : decode cX7_isName 41 = .ok (.goto 4, 3) := by decide +kernel
theorem dX7_isName_44 : decode cX7_isName 44 = .ok (.iconst 0, 1) := by decide +kernel
theorem dX7_isName_45 : decode cX7_isName 45 = .ok (.if_icmp .eq 5, 3) := by decide +kernel
theorem dX7_isName_48 : decode cX7_isName 48 = .ok (.iconst 0, 1) := by decide +kernel
theorem dX7_isName_49 : decode cX7_isName 49 = .ok (.ireturn, 1) := by decide +kernel
theorem dX7_isName_50 : decode cX7_isName 50 = .ok (.iinc 2 1, 3) := by decide +kernel
theorem dX7_isName_53 : decode cX7_isName 53 = .ok (.goto (-51), 3) := by decide +kernel
theorem dX7_isName_56 : decode cX7_isName 56 = .ok (.iconst 1, 1) := by decide +kernel
theorem dX7_isName_57 : decode cX7_isName 57 = .ok (.ireturn, 1) := by decide +kernel
theorem eX7_isName {W : zWd} {B : Nat → Int} {N p : Nat} {d q : Int} {a : Int → Int}  {Q : Option Value → zWd → Prop} {X : zX} (hG : zGd W B N p) (hRw : zRw W d a) (hs : ∀ j : Int, 0 ≤ j → j < 160 → -1000 ≤ a j ∧ a j ≤ 1000) (hq0 : 0 ≤ q) (hq1 : q < 6) (hq : Q (some (zI (if isNm B N p a q = true then 1 else 0))) W) : Ev MX7_isName 1 0 W [.ref 116, zI q] Q X := by
  refine ev_of (ls := [.ref 116, zI q, .null]) (by decide) rfl (fun _ => rfl) (fun _ => Nat.le_of_ble_eq_true rfl) (Or.inl rfl) ?_
  obtain ⟨hT, hM, h14⟩ := id hG
  obtain ⟨m10, mpN, m11, m12, m13⟩ := id hM
  have h600 := hT.2.1
  have hed := sEd_rng (B := B) mpN
  have loop : ∀ (n : Nat) (k : Int), 0 ≤ k → k ≤ 8 → (∀ j : Int, 0 ≤ j → j < k → aP a q (9 + j) = nLt B N p j) → (8 - k).toNat < n → RR MX7_isName 1 0 W 2 [.ref 116, zI q, zI k] [] (zEnd MX7_isName Q X) X := by
    intro n
    induction n with
    | zero => intro k _ _ _ hm9; omega
    | succ n ih =>
      intro k h1 h2 hA hm9
      refine rr_iload_n (pc := 2) dX7_isName_2 rfl ?_
      refine rr_bipush (n := (8)) dX7_isName_3 ?_
      refine rr_icmp_ge (pc := 5) (tgt := 56) dX7_isName_5 (by decide) (by unfold zR; omega) (by unfold zR; omega) (fun h5 => ?_) (fun h5 => ?_)
      · refine rr_iconst (n := 1) dX7_isName_56 ?_
        exact rr_reti (pc := 57) dX7_isName_57 rfl rfl (if_pos (isNm_iff.mpr (fun j g1 g2 => hA j g1 (by omega)))).symm rfl (hq)
      · refine rr_aload_n (pc := 8) dX7_isName_8 rfl ?_
        refine rr_iload_n (pc := 9) dX7_isName_9 rfl ?_
        refine rr_bipush (n := (9)) dX7_isName_10 ?_
        refine rr_iload_n (pc := 12) dX7_isName_12 rfl ?_
        refine rr_iadd (pc := 13) dX7_isName_13 ?_
        refine rr_inv0 (M' := MX7_of) (k := 116) (As := [_, _]) (pc := 14) dX7_isName_14 lX7_154 kX7_of vX7_of zk_116 (by decide) rfl (by decide) (by decide) (Nat.le_of_ble_eq_true rfl) rfl (eX7_of (by omega) (by omega) (by omega) (by omega) ?_)
        rw [show aP (W 117) q (9 + k) = aP a q (9 + k) from hRw.1 _ (by omega) (by omega) (by omega)]
        have hsm : -1000 ≤ aP a q (9 + k) ∧ aP a q (9 + k) ≤ 1000 := hs (58 + 17 * q + (9 + k)) (by omega) (by omega)
        refine rr_aload_n (pc := 17) dX7_isName_17 rfl ?_
        refine rr_getI (pc := 18) (ji := 10) dX7_isName_18 fX7_91 zk_116 zr_116_10 rfl ?_
        rw [m10]
        refine rr_iload_n (pc := 21) dX7_isName_21 rfl ?_
        refine rr_iadd (pc := 22) dX7_isName_22 ?_
        refine rr_aload_n (pc := 23) dX7_isName_23 rfl ?_
        refine rr_getI (pc := 24) (ji := 11) dX7_isName_24 fX7_88 zk_116 zr_116_11 rfl ?_
        rw [m11]
        refine rr_icmp_ge (pc := 27) (tgt := 44) dX7_isName_27 (by decide) (by unfold zR; omega) (by unfold zR; omega) (fun h27 => ?_) (fun h27 => ?_)
        · refine rr_iconst (n := 0) dX7_isName_44 ?_
          have hn : nLt B N p k = 0 := if_neg (by omega)
          refine rr_icmp_eq (pc := 45) (tgt := 50) dX7_isName_45 (by decide) (by unfold zR; omega) (by unfold zR; omega) (fun h45 => ?_) (fun h45 => ?_)
          · refine rr_iinc (pc := 50) dX7_isName_50 rfl (by decide) ?_
            refine rr_goto (pc := 53) (tgt := 2) dX7_isName_53 (by decide) ?_
            refine ih (k + 1) (by omega) (by omega) (fun j g1 g2 => ?_) (by omega)
            by_cases z : j = k
            · subst z; rw [hn]; exact h45
            · exact hA j g1 (by omega)
          · refine rr_iconst (n := 0) dX7_isName_48 ?_
            exact rr_reti (pc := 49) dX7_isName_49 rfl rfl (if_neg (fun z => h45 (by rw [← hn]; exact isNm_iff.mp z k h1 (by omega)))).symm rfl (hq)
        · refine rr_aload_n (pc := 30) dX7_isName_30 rfl ?_
          refine rr_getR (pc := 31) dX7_isName_31 fX7_29 zk_116 zr_116_8 ?_
          refine rr_aload_n (pc := 34) dX7_isName_34 rfl ?_
          refine rr_getI (pc := 35) (ji := 10) dX7_isName_35 fX7_91 zk_116 zr_116_10 rfl ?_
          rw [m10]
          refine rr_iload_n (pc := 38) dX7_isName_38 rfl ?_
          refine rr_iadd (pc := 39) dX7_isName_39 ?_
          have hb := hT.2.2 (p + k.toNat) (by omega)
          refine rr_iald (pc := 40) dX7_isName_40 zk_123 (by omega) (by omega) ?_
          rw [show (p : Int) + k = ((p + k.toNat : Nat) : Int) by omega, hb.2.2]
          refine rr_goto (pc := 41) (tgt := 45) dX7_isName_41 (by decide) ?_
          have hn : nLt B N p k = B (p + k.toNat) := if_pos (by omega)
          refine rr_icmp_eq (pc := 45) (tgt := 50) dX7_isName_45 (by decide) (by unfold zR; omega) (by unfold zR; omega) (fun h45 => ?_) (fun h45 => ?_)
          · refine rr_iinc (pc := 50) dX7_isName_50 rfl (by decide) ?_
            refine rr_goto (pc := 53) (tgt := 2) dX7_isName_53 (by decide) ?_
            refine ih (k + 1) (by omega) (by omega) (fun j g1 g2 => ?_) (by omega)
            by_cases z : j = k
            · subst z; rw [hn]; exact h45
            · exact hA j g1 (by omega)
          · refine rr_iconst (n := 0) dX7_isName_48 ?_
            exact rr_reti (pc := 49) dX7_isName_49 rfl rfl (if_neg (fun z => h45 (by rw [← hn]; exact isNm_iff.mp z k h1 (by omega)))).symm rfl (hq)
  refine rr_iconst (n := 0) dX7_isName_0 ?_
  refine rr_istore_n (pc := 1) dX7_isName_1 (by decide) ?_
  exact loop _ 0 (by omega) (by omega) (fun j g1 g2 => by omega) (Nat.lt_succ_self _)
def sOwn1 (B : Nat → Int) (N : Nat) (q : Int) (p : Nat) (a : Int → Int) : zRs := match sNr B N 1 (a 1) p with
  | .inl e => .inl e
  | .inr g => if aO a g.2 = -1 then .inr (g.1, iup a (18 + 2 * (g.2 - 1) + (0 : Nat)) (q + 1)) else .inl (-4, p)
theorem zMR.w {W W' : zWd} {B : Nat → Int} {N p : Nat} {d i v : Int} {a : Int → Int} (h : zMR W B N d (.inr (p, a))) (o : zOfm W W') (e : W' 117 = iup (W 117) i v) (hi : i ≠ 2) (hp : zPf (iup a i v)) (h1 : -1000 ≤ v) (h2 : v ≤ 1000) : zMR W' B N d (.inr (p, iup a i v)) :=
  ⟨zGd.m h.1 o, h.2.1.up e hi, h.2.2.up hp h1 h2⟩
theorem dX7_readsOwned_0 : decode cX7_readsOwned 0 = .ok (.aload_n 0, 1) := by decide +kernel
theorem dX7_readsOwned_1 : decode cX7_readsOwned 1 = .ok (.iconst 1, 1) := by decide +kernel
theorem dX7_readsOwned_2 : decode cX7_readsOwned 2 = .ok (.aload_n 0, 1) := by decide +kernel
theorem dX7_readsOwned_3 : decode cX7_readsOwned 3 = .ok (.getfield 7, 3) := by decide +kernel
theorem dX7_readsOwned_6 : decode cX7_readsOwned 6 = .ok (.iconst 1, 1) := by decide +kernel
theorem dX7_readsOwned_7 : decode cX7_readsOwned 7 = .ok (.iaload, 1) := by decide +kernel
theorem dX7_readsOwned_8 : decode cX7_readsOwned 8 = .ok (.invokevirtual 135, 3) := by decide +kernel
theorem dX7_readsOwned_11 : decode cX7_readsOwned 11 = .ok (.istore_n 2, 1) := by decide +kernel
theorem dX7_readsOwned_12 : decode cX7_readsOwned 12 = .ok (.aload_n 0, 1) := by decide +kernel
theorem dX7_readsOwned_13 : decode cX7_readsOwned 13 = .ok (.getfield 113, 3) := by decide +kernel
theorem dX7_readsOwned_16 : decode cX7_readsOwned 16 = .ok (.ifCond .ne 18, 3) := by decide +kernel
theorem dX7_readsOwned_19 : decode cX7_readsOwned 19 = .ok (.aload_n 0, 1) := by decide +kernel
theorem dX7_readsOwned_20 : decode cX7_readsOwned 20 = .ok (.iload_n 2, 1) := by decide +kernel
theorem dX7_readsOwned_21 : decode cX7_readsOwned 21 = .ok (.invokevirtual 187, 3) := by decide +kernel
theorem dX7_readsOwned_24 : decode cX7_readsOwned 24 = .ok (.iconst (-1), 1) := by decide +kernel
theorem dX7_readsOwned_25 : decode cX7_readsOwned 25 = .ok (.if_icmp .eq 9, 3) := by decide +kernel
theorem dX7_readsOwned_28 : decode cX7_readsOwned 28 = .ok (.aload_n 0, 1) := by decide +kernel
theorem dX7_readsOwned_29 : decode cX7_readsOwned 29 = .ok (.bipush (-4), 2) := by decide +kernel
theorem dX7_readsOwned_31 : decode cX7_readsOwned 31 = .ok (.invokevirtual 129, 3) := by decide +kernel
theorem dX7_readsOwned_34 : decode cX7_readsOwned 34 = .ok (.aload_n 0, 1) := by decide +kernel
theorem dX7_readsOwned_35 : decode cX7_readsOwned 35 = .ok (.getfield 113, 3) := by decide +kernel
theorem dX7_readsOwned_38 : decode cX7_readsOwned 38 = .ok (.ifCond .eq 4, 3) := by decide +kernel
theorem dX7_readsOwned_41 : decode cX7_readsOwned 41 = .ok (.return_, 1) := by decide +kernel
theorem dX7_readsOwned_42 : decode cX7_readsOwned 42 = .ok (.aload_n 0, 1) := by decide +kernel
theorem dX7_readsOwned_43 : decode cX7_readsOwned 43 = .ok (.iload_n 2, 1) := by decide +kernel
theorem dX7_readsOwned_44 : decode cX7_readsOwned 44 = .ok (.iload_n 1, 1) := by decide +kernel
theorem dX7_readsOwned_45 : decode cX7_readsOwned 45 = .ok (.invokevirtual 190, 3) := by decide +kernel
theorem dX7_readsOwned_48 : decode cX7_readsOwned 48 = .ok (.aload_n 0, 1) := by decide +kernel
theorem dX7_readsOwned_49 : decode cX7_readsOwned 49 = .ok (.invokevirtual 132, 3) := by decide +kernel
theorem dX7_readsOwned_52 : decode cX7_readsOwned 52 = .ok (.return_, 1) := by decide +kernel
theorem eX7_readsOwned {W : zWd} {B : Nat → Int} {N p : Nat} {q : Int} {a : Int → Int}  {Q : Option Value → zWd → Prop} {X : zX} (h : zMR W B N 1 (.inr (p, a))) (hq0 : 0 ≤ q) (hq1 : q < a 2) (hq : ∀ W' : zWd, zOfR W W' → zMR W' B N 1 (sOwn1 B N q p a) → Q none W') : Ev MX7_readsOwned 3 0 W [.ref 116, zI q] Q X := by
  refine ev_of (ls := [.ref 116, zI q, .null]) (by decide) rfl (fun _ => rfl) (fun _ => Nat.le_of_ble_eq_true rfl) (Or.inl rfl) ?_
  have hG : zGd W B N p ∧ zRw W 1 a ∧ zPs a := h
  obtain ⟨⟨hT, hM, h14⟩, hRw, hPf⟩ := hG
  obtain ⟨m10, mpN, m11, m12, m13⟩ := id hM
  have h600 := hT.2.1
  have hed := sEd_rng (B := B) mpN
  have hkd := @sKd_rng B N p
  obtain ⟨p0, p0', pW, p1, p2, p2', p3, p3', p4, p5, p6, p7, pS, pP⟩ := id hPf.1
  have psq := hPf.1.sq
  refine rr_aload_n (pc := 0) dX7_readsOwned_0 rfl ?_
  refine rr_iconst (n := 1) dX7_readsOwned_1 ?_
  refine rr_aload_n (pc := 2) dX7_readsOwned_2 rfl ?_
  refine rr_getR (pc := 3) dX7_readsOwned_3 fX7_7 zk_116 zr_116_0 ?_
  refine rr_iconst (n := 1) dX7_readsOwned_6 ?_
  refine rr_iald (pc := 7) dX7_readsOwned_7 zk_117 (by omega) (by omega) ?_
  rw [hRw.1 1 (by omega) (by omega) (by omega)]
  refine rr_inv0 (M' := MX7_stands) (k := 116) (As := [_, _]) (pc := 8) dX7_readsOwned_8 lX7_135 kX7_stands vX7_stands zk_116 (by decide) rfl (by decide) (by decide) (Nat.le_of_ble_eq_true rfl) rfl (eX7_stands h (by unfold zR; omega) (by unfold zR; omega) (fun c hn W1 o1 r1 => ?_) (fun v hn => ?_))
  · refine rr_istore_n (pc := 11) dX7_readsOwned_11 (by decide) ?_
    refine rr_aload_n (pc := 12) dX7_readsOwned_12 rfl ?_
    refine rr_getI (pc := 13) (ji := 14) dX7_readsOwned_13 fX7_113 zk_116 zr_116_14 rfl ?_
    rw [show W1 116 14 = c from r1.1]
    have hc1 : -5 ≤ c ∧ c ≤ -2 := ⟨r1.2.1, r1.2.2.1⟩
    refine rr_if_ne (pc := 16) (tgt := 34) dX7_readsOwned_16 (by decide) (by unfold zR; omega) (fun h16 => ?_) (fun h16 => ?_)
    · refine rr_aload_n (pc := 34) dX7_readsOwned_34 rfl ?_
      refine rr_getI (pc := 35) (ji := 14) dX7_readsOwned_35 fX7_113 zk_116 zr_116_14 rfl ?_
      rw [show W1 116 14 = c from r1.1]
      refine rr_if_eq (pc := 38) (tgt := 42) dX7_readsOwned_38 (by decide) (by unfold zR; omega) (fun h38 => ?_) (fun h38 => ?_)
      · omega
      · exact rr_retv (pc := 41) dX7_readsOwned_41 rfl rfl (hq W1 o1 (by unfold sOwn1; rw [hn]; exact r1))
    · omega
  · refine rr_istore_n (pc := 11) dX7_readsOwned_11 (by decide) ?_
    refine rr_aload_n (pc := 12) dX7_readsOwned_12 rfl ?_
    have hvr := sNr_in hn
    have hoo := pS v (by omega) (by omega)
    have hsp : sOwn1 B N q p a = if aO a v = -1 then .inr (sSk B N (sEd B N p), iup a (18 + 2 * (v - 1) + (0 : Nat)) (q + 1)) else .inl (-4, p) := by unfold sOwn1; rw [hn]
    refine rr_getI (pc := 13) (ji := 14) dX7_readsOwned_13 fX7_113 zk_116 zr_116_14 rfl ?_
    rw [h14]
    refine rr_if_ne (pc := 16) (tgt := 34) dX7_readsOwned_16 (by decide) (by unfold zR; omega) (fun h16 => ?_) (fun h16 => ?_)
    · exact absurd rfl h16
    · refine rr_aload_n (pc := 19) dX7_readsOwned_19 rfl ?_
      refine rr_iload_n (pc := 20) dX7_readsOwned_20 rfl ?_
      refine rr_inv0 (M' := MX7_ownerOf) (k := 116) (As := [_]) (pc := 21) dX7_readsOwned_21 lX7_187 kX7_ownerOf vX7_ownerOf zk_116 (by decide) rfl (by decide) (by decide) (Nat.le_of_ble_eq_true rfl) rfl (eX7_ownerOf (by omega) (by omega) ?_)
      have e5 : aO (W 117) v = aO a v := by unfold aO; rw [hRw.1 _ (by omega) (by omega) (by omega)]
      rw [e5]
      refine rr_iconst (n := (-1)) dX7_readsOwned_24 ?_
      refine rr_icmp_eq (pc := 25) (tgt := 34) dX7_readsOwned_25 (by decide) (by unfold zR; omega) (by unfold zR; omega) (fun h25 => ?_) (fun h25 => ?_)
      · refine rr_aload_n (pc := 34) dX7_readsOwned_34 rfl ?_
        refine rr_getI (pc := 35) (ji := 14) dX7_readsOwned_35 fX7_113 zk_116 zr_116_14 rfl ?_
        rw [h14]
        refine rr_if_eq (pc := 38) (tgt := 42) dX7_readsOwned_38 (by decide) (by unfold zR; omega) (fun h38 => ?_) (fun h38 => ?_)
        · refine rr_aload_n (pc := 42) dX7_readsOwned_42 rfl ?_
          refine rr_iload_n (pc := 43) dX7_readsOwned_43 rfl ?_
          refine rr_iload_n (pc := 44) dX7_readsOwned_44 rfl ?_
          refine rr_inv0 (M' := MX7_owns) (k := 116) (As := [_, _]) (pc := 45) dX7_readsOwned_45 lX7_190 kX7_owns vX7_owns zk_116 (by decide) rfl (by decide) (by decide) (Nat.le_of_ble_eq_true rfl) rfl (eX7_owns (by omega) (by omega) ?_)
          have oA : zOfm W (zup W 117 (18 + 2 * (v - 1)) (q + 1)) := zOfm.rf.up
          have rA : zMR (zup W 117 (18 + 2 * (v - 1)) (q + 1)) B N 1 (.inr (p, iup a (18 + 2 * (v - 1) + (0 : Nat)) (q + 1))) := zMR.w h oA (by rw [zup_at, show 18 + 2 * (v - 1) + ((0 : Nat) : Int) = 18 + 2 * (v - 1) by omega]) (by omega) (zPf_S hPf.1 (by omega) (by omega) hq0 hq1) (by omega) (by omega)
          generalize zup W 117 (18 + 2 * (v - 1)) (q + 1) = W2 at oA rA ⊢
          refine rr_aload_n (pc := 48) dX7_readsOwned_48 rfl ?_
          refine rr_inv0 (M' := MX7_next) (k := 116) (As := []) (pc := 49) dX7_readsOwned_49 lX7_132 kX7_next vX7_next zk_116 (by decide) rfl (by decide) (by decide) (Nat.le_of_ble_eq_true rfl) rfl (eX7_nextG rA (fun W3 o3 r3 => ?_))
          exact rr_retv (pc := 52) dX7_readsOwned_52 rfl rfl (hq W3 (oA.R.tr o3.R) (by rw [hsp, if_pos h25]; exact r3))
        · exact absurd rfl h38
      · refine rr_aload_n (pc := 28) dX7_readsOwned_28 rfl ?_
        refine rr_bipush (n := (-4)) dX7_readsOwned_29 ?_
        refine rr_inv0 (M' := MX7_fails) (k := 116) (As := [_]) (pc := 31) dX7_readsOwned_31 lX7_129 kX7_fails vX7_fails zk_116 (by decide) rfl (by decide) (by decide) (Nat.le_of_ble_eq_true rfl) rfl (eX7_failsG h (by decide) (by decide) (fun W1 o1 r1 => ?_))
        refine rr_aload_n (pc := 34) dX7_readsOwned_34 rfl ?_
        refine rr_getI (pc := 35) (ji := 14) dX7_readsOwned_35 fX7_113 zk_116 zr_116_14 rfl ?_
        rw [show W1 116 14 = -4 from r1.1]
        refine rr_if_eq (pc := 38) (tgt := 42) dX7_readsOwned_38 (by decide) (by unfold zR; omega) (fun h38 => ?_) (fun h38 => ?_)
        · exact absurd h38 (by decide)
        · exact rr_retv (pc := 41) dX7_readsOwned_41 rfl rfl (hq W1 o1.R (by rw [hsp, if_neg h25]; exact r1))
