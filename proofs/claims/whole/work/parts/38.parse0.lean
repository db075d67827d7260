/-! A COURT UNDER CONSTRUCTION -/
/-- the numbers of a court that is being read: what isn't there yet is 0 -/
def zPf (a : Int → Int) : Prop :=
  0 ≤ a 0 ∧ a 0 ≤ 10 ∧ (∀ r : Int, 0 ≤ r → r < a 0 → 1 ≤ a (8 + r) ∧ a (8 + r) ≤ 2) ∧ a 1 = aF a (a 0).toNat - 1 ∧ 0 ≤ a 2 ∧ a 2 ≤ 6 ∧ -9 ≤ a 3 ∧ a 3 ≤ 9 ∧ a 4 = 0 ∧ a 5 = 0 ∧ a 6 = 0 ∧ a 7 = 0 ∧
  (∀ s : Int, 1 ≤ s → s ≤ 20 → -1 ≤ aO a s ∧ (aO a s < a 2 ∨ aO a s = -1) ∧ aL a s = 0 ∧ (a 1 < s → aO a s = -1)) ∧ (∀ p : Int, 0 ≤ p → p < a 2 → zWfP 0 a p)
theorem zPf.wf {a : Int → Int} (h : zPf a) (h0 : 2 ≤ a 0) (h2 : 2 ≤ a 2) : zWf 0 a := by
  obtain ⟨p0, p0', pW, p1, p2, p2', p3, p3', p4, p5, p6, p7, pS, pP⟩ := h
  refine ⟨h0, p0', pW, p1, h2, p2', p3, p3', by omega, by omega, by omega, by omega, by omega, by omega, by omega, by omega, fun s h1 h2' => ?_, pP, by omega⟩
  have hF : aF a (a 0).toNat ≤ 21 := by
    have key : ∀ n : Nat, (n : Int) ≤ a 0 → aF a n ≤ 1 + 2 * n := by
      intro n
      induction n with
      | zero => intro _; exact Int.le_refl _
      | succ n ih =>
        intro hn
        have := ih (by omega)
        have := pW n (by omega) (by omega)
        rw [aF_step]; omega
    have := key (a 0).toNat (by omega)
    omega
  have := pS s h1 (by omega)
  omega
theorem zPf.F {a : Int → Int} (h : zPf a) : ∀ n : Nat, (n : Int) ≤ a 0 → 1 + (n : Int) ≤ aF a n ∧ aF a n ≤ 1 + 2 * n := by
  intro n
  induction n with
  | zero => intro _; exact ⟨Int.le_refl _, Int.le_refl _⟩
  | succ n ih =>
    intro hn
    have := ih (by omega)
    have := h.2.2.1 n (by omega) (by omega)
    rw [aF_step]; omega
theorem zPf.sq {a : Int → Int} (h : zPf a) : a 0 ≤ a 1 ∧ a 1 ≤ 2 * a 0 := by
  have h1 := h.F (a 0).toNat (by have := h.1; omega)
  have := h.1
  have := h.2.2.2.1
  omega
theorem zPf.mono {a : Int → Int} (h : zPf a) {r r' : Nat} (hr : r ≤ r') (hr' : (r' : Int) ≤ a 0) : aF a r ≤ aF a r' := by
  obtain ⟨k, rfl⟩ := Nat.le.dest hr
  clear hr
  induction k with
  | zero => exact Int.le_refl _
  | succ k ih =>
    have h1 := ih (by omega)
    have h2 := h.2.2.1 ((r + k : Nat) : Int) (by omega) (by omega)
    show aF a r ≤ aF a (r + k) + a (8 + ((r + k : Nat) : Int))
    omega
/-- where the search for a row ends -/
theorem aRf_at {a : Int → Int} {s : Int} {R : Nat} : ∀ n r : Nat, r ≤ R → R < r + n → (∀ k : Nat, k ≤ R → aF a k ≤ s) → s < aF a (R + 1) → aRf a s n r = R := by
  intro n
  induction n with
  | zero => intro r h1 h2; omega
  | succ n ih =>
    intro r h1 h2 h3 h4
    unfold aRf
    by_cases q : r = R
    · subst q; rw [if_neg (by rw [← aF_step]; omega)]
    · rw [if_pos (by rw [← aF_step]; exact h3 _ (by omega))]; exact ih (r + 1) (by omega) (by omega) h3 h4
theorem aR_at {a : Int → Int} {s : Int} {R : Nat} (hR : R < 10) (h3 : ∀ k : Nat, k ≤ R → aF a k ≤ s) (h4 : s < aF a (R + 1)) : aR a s = R := aRf_at 10 0 (Nat.zero_le _) (by omega) h3 h4
theorem aR_ex {a : Int → Int} (h : zPf a) {s : Int} (h1 : 1 ≤ s) : ∀ n : Nat, (n : Int) ≤ a 0 → s < aF a n → ∃ R : Nat, R < n ∧ (∀ k : Nat, k ≤ R → aF a k ≤ s) ∧ s < aF a (R + 1) := by
  intro n
  induction n with
  | zero => intro _ g; exact absurd g (by show ¬ s < 1; omega)
  | succ n ih =>
    intro hn g
    by_cases q : s < aF a n
    · obtain ⟨R, g1, g2⟩ := ih (by omega) q
      exact ⟨R, by omega, g2⟩
    · exact ⟨n, by omega, fun k hk => Int.le_trans (h.mono hk (by omega)) (by omega), g⟩
/-- nothing is there -/
def a00 : Int → Int := fun _ => 0
theorem zPf_0 : zPf a00 := by
  refine ⟨by decide, by decide, fun r h1 h2 => absurd (show r < 0 from h2) (by omega), rfl, by decide, by decide, by decide, by decide, rfl, rfl, rfl, rfl, fun s _ _ => ⟨by show (-1 : Int) ≤ 0 - 1; omega, Or.inr rfl, rfl, fun _ => rfl⟩, fun p h1 h2 => absurd (show p < 0 from h2) (by omega)⟩
/-- the squares that aren't there yet are free and have no landings -/
def zFr (W : zWd) (c : Nat) (a : Int → Int) : Prop := ∀ s : Int, a 1 < s → s ≤ 20 → 0 ≤ s → W (c + 3) s = -1 ∧ W (c + 4) s = 0
def zCP (W : zWd) (c : Nat) (a : Int → Int) : Prop := zCR W c a ∧ zFr W c a ∧ zPf a
theorem zCP.off {W W' : zWd} {c : Nat} {a : Int → Int} (h : zCP W c a) (hW : ∀ k : Nat, c ≤ k → k < c + 8 → W' k = W k) : zCP W' c a :=
  ⟨CR_off h.1 hW, fun s h1 h2 h3 => by rw [hW (c + 3) (by omega) (by omega), hW (c + 4) (by omega) (by omega)]; exact h.2.1 s h1 h2 h3, h.2.2⟩
/-- a row is added -/
def aRow (a : Int → Int) (w : Int) : Int → Int := iup (iup (iup a (8 + a 0) w) 0 (a 0 + 1)) 1 (a 1 + w)
theorem aRow_n {a : Int → Int} {w j : Int} (h0 : j ≠ 0) (h1 : j ≠ 1) (h8 : j ≠ 8 + a 0) : aRow a w j = a j := by
  unfold aRow; rw [iup_n h1, iup_n h0, iup_n h8]
theorem aRow_0 {a : Int → Int} {w : Int} : aRow a w 0 = a 0 + 1 := by unfold aRow; rw [iup_n (by decide), iup_s]
theorem aRow_1 {a : Int → Int} {w : Int} : aRow a w 1 = a 1 + w := iup_s
theorem aRow_8 {a : Int → Int} {w : Int} (h : 0 ≤ a 0) : aRow a w (8 + a 0) = w := by unfold aRow; rw [iup_n (by omega), iup_n (by omega), iup_s]
theorem aRow_F {a : Int → Int} {w : Int} (h : 0 ≤ a 0) : ∀ r : Nat, (r : Int) ≤ a 0 → aF (aRow a w) r = aF a r := by
  intro r
  induction r with
  | zero => intro _; rfl
  | succ r ih => intro hr; rw [aF_step, aF_step, ih (by omega), aRow_n (by omega) (by omega) (by omega)]
theorem aRow_F1 {a : Int → Int} {w : Int} (h : 0 ≤ a 0) : aF (aRow a w) ((a 0).toNat + 1) = aF a (a 0).toNat + w := by
  rw [aF_step, aRow_F h _ (by omega), show ((((a 0).toNat : Nat)) : Int) = a 0 by omega, aRow_8 h]
theorem aRow_R {a : Int → Int} {w s : Int} (h : zPf a) (h9 : a 0 < 10) (hw : 1 ≤ w) (h1 : 1 ≤ s) (h2 : s ≤ a 1 + w) : aR (aRow a w) s = if s ≤ a 1 then aR a s else (a 0).toNat := by
  have h0 := h.1
  have he := h.2.2.2.1
  by_cases q : s ≤ a 1
  · rw [if_pos q]
    obtain ⟨R, g1, g2, g3⟩ := aR_ex h h1 (a 0).toNat (by omega) (by omega)
    rw [aR_at (R := R) (by omega) g2 g3]
    exact aR_at (by omega) (fun k hk => by rw [aRow_F h0 k (by omega)]; exact g2 k hk) (by rw [aRow_F h0 _ (by omega)]; exact g3)
  · rw [if_neg q]
    refine aR_at (by omega) (fun k hk => ?_) (by rw [aRow_F1 h0]; omega)
    rw [aRow_F h0 k (by omega)]
    have := h.mono hk (by omega)
    omega
theorem aRow_pf {a : Int → Int} {w : Int} (h : zPf a) (h9 : a 0 < 10) (h1 : 1 ≤ w) (h2 : w ≤ 2) : zPf (aRow a w) := by
  have hsq := h.sq
  obtain ⟨p0, p0', pW, p1, p2, p2', p3, p3', p4, p5, p6, p7, pS, pP⟩ := id h
  have n : ∀ j : Int, 2 ≤ j → j < 8 ∨ 18 ≤ j → aRow a w j = a j := fun j g1 g2 => aRow_n (by omega) (by omega) (by omega)
  unfold zPf
  rw [aRow_0, aRow_1, n 2 (by omega) (by omega), n 3 (by omega) (by omega), n 4 (by omega) (by omega), n 5 (by omega) (by omega), n 6 (by omega) (by omega), n 7 (by omega) (by omega), show (a 0 + 1).toNat = (a 0).toNat + 1 by omega, aRow_F1 p0]
  refine ⟨by omega, by omega, fun r g1 g2 => ?_, by omega, p2, p2', p3, p3', p4, p5, p6, p7, fun s g1 g2 => ?_, fun p g1 g2 => ?_⟩
  · by_cases q : r = a 0
    · subst q; rw [aRow_8 p0]; omega
    · rw [aRow_n (by omega) (by omega) (by omega)]; exact pW r g1 (by omega)
  · have hs := pS s g1 g2
    unfold aO aL at *
    rw [n _ (by omega) (by omega), n _ (by omega) (by omega)]
    omega
  · have hp := pP p g1 g2
    unfold zWfP aP at *
    rw [aRow_1, n _ (by omega) (by omega), n _ (by omega) (by omega), n _ (by omega) (by omega), n _ (by omega) (by omega), n _ (by omega) (by omega), n _ (by omega) (by omega), n _ (by omega) (by omega), n _ (by omega) (by omega), n _ (by omega) (by omega)]
    omega
theorem CP_row {W W' : zWd} {c : Nat} {a : Int → Int} {w : Int} (h : zCP W c a) (h9 : a 0 < 10) (h1 : 1 ≤ w) (h2 : w ≤ 2)
    (e0 : W' c 0 = a 0 + 1) (e1 : W' c 1 = a 1 + w) (e2 : ∀ j : Int, 2 ≤ j → W' c j = W c j) (eF : ∀ r : Int, r ≠ a 0 + 1 → W' (c + 1) r = W (c + 1) r) (eF1 : W' (c + 1) (a 0 + 1) = a 1 + w + 1)
    (eR : ∀ s : Int, (s ≤ a 1) → W' (c + 2) s = W (c + 2) s) (eR1 : ∀ s : Int, a 1 < s → s ≤ a 1 + w → W' (c + 2) s = a 0) (eo : ∀ k : Nat, c + 3 ≤ k → k < c + 8 → W' k = W k) : zCP W' c (aRow a w) := by
  obtain ⟨hC, hF, hP⟩ := h
  obtain ⟨r0, r1, r2, r3, r4, r5, r6, r7, rF, rS, rP, rB⟩ := hC
  have hsq := hP.sq
  have p0 := hP.1
  have n : ∀ j : Int, 2 ≤ j → j < 8 ∨ 18 ≤ j → aRow a w j = a j := fun j g1 g2 => aRow_n (by omega) (by omega) (by omega)
  refine ⟨⟨?_, ?_, ?_, ?_, ?_, ?_, ?_, ?_, ?_, ?_, ?_, ?_⟩, ?_, aRow_pf hP h9 h1 h2⟩
  · rw [aRow_0]; exact e0
  · rw [aRow_1]; exact e1
  · rw [n _ (by omega) (by omega), e2 _ (by omega)]; exact r2
  · rw [n _ (by omega) (by omega), e2 _ (by omega)]; exact r3
  · rw [n _ (by omega) (by omega), e2 _ (by omega)]; exact r4
  · rw [n _ (by omega) (by omega), e2 _ (by omega)]; exact r5
  · rw [n _ (by omega) (by omega), e2 _ (by omega)]; exact r6
  · rw [n _ (by omega) (by omega), e2 _ (by omega)]; exact r7
  · intro r hr10 hr
    rw [aRow_0] at hr
    by_cases q : (r : Int) = a 0 + 1
    · rw [q, eF1, show r = (a 0).toNat + 1 by omega, aRow_F1 p0]
      have := hP.2.2.2.1
      omega
    · rw [eF _ q, aRow_F p0 _ (by omega)]; exact rF r hr10 (by omega)
  · intro s g1 g20 g2
    rw [aRow_1] at g2
    rw [aRow_R hP h9 h1 g1 g2, eo (c + 3) (by omega) (by omega), eo (c + 4) (by omega) (by omega)]
    have eO : aO (aRow a w) s = aO a s := by unfold aO; rw [n _ (by omega) (by omega)]
    have eL : aL (aRow a w) s = aL a s := by unfold aL; rw [n _ (by omega) (by omega)]
    rw [eO, eL]
    by_cases q : s ≤ a 1
    · rw [if_pos q, eR s q]; exact rS s g1 g20 q
    · have hs := hP.2.2.2.2.2.2.2.2.2.2.2.2.1 s g1 g20
      have hf := hF s (by omega) g20 (by omega)
      rw [if_neg q, eR1 s (by omega) g2]
      exact ⟨by omega, by rw [hf.1]; exact (hs.2.2.2 (by omega)).symm, by rw [hf.2]; exact hs.2.2.1.symm⟩
  · intro p g1 g2
    rw [n _ (by omega) (by omega)] at g2
    have hp := rP p g1 g2
    unfold zCRP zNam aP at *
    rw [eo (c + 5) (by omega) (by omega), eo (c + 6) (by omega) (by omega), eo (c + 7) (by omega) (by omega)]
    have nP : ∀ k : Int, 0 ≤ k → aRow a w (58 + 17 * p + k) = a (58 + 17 * p + k) := fun k hk => n _ (by omega) (by omega)
    rw [nP 0 (by omega), nP 1 (by omega), nP 2 (by omega), nP 3 (by omega), nP 4 (by omega), nP 5 (by omega), nP 6 (by omega), nP 7 (by omega), nP 8 (by omega)]
    obtain ⟨q0, q1, q2, q3, q4, q5, q7, q8, q9, ⟨g1', g2', g3', g4'⟩, g5'⟩ := hp
    exact ⟨q0, q1, q2, q3, q4, q5, q7, q8, q9, ⟨g1', g2', fun k k1 k2 => by rw [nP _ (by omega)]; exact g3' k k1 k2, fun k k1 k2 => by rw [nP _ (by omega)]; exact g4' k k1 k2⟩, fun k k1 k2 => by rw [nP _ (by omega)]; exact g5' k k1 k2⟩
  · intro i g1 g2
    rw [eo _ (by omega) (by omega)]; exact rB i g1 g2
  · intro s g1 g2 g3
    rw [aRow_1] at g1
    rw [eo _ (by omega) (by omega), eo _ (by omega) (by omega)]; exact hF s (by omega) g2 g3
theorem dX0_wipe_0 : decode cX0_wipe 0 = .ok (.aload_n 0, 1) := by decide +kernel
theorem dX0_wipe_1 : decode cX0_wipe 1 = .ok (.iconst 0, 1) := by decide +kernel
theorem dX0_wipe_2 : decode cX0_wipe 2 = .ok (.putfield 37, 3) := by decide +kernel
theorem dX0_wipe_5 : decode cX0_wipe 5 = .ok (.aload_n 0, 1) := by decide +kernel
theorem dX0_wipe_6 : decode cX0_wipe 6 = .ok (.iconst 0, 1) := by decide +kernel
theorem dX0_wipe_7 : decode cX0_wipe 7 = .ok (.putfield 41, 3) := by decide +kernel
theorem dX0_wipe_10 : decode cX0_wipe 10 = .ok (.aload_n 0, 1) := by decide +kernel
theorem dX0_wipe_11 : decode cX0_wipe 11 = .ok (.iconst 0, 1) := by decide +kernel
theorem dX0_wipe_12 : decode cX0_wipe 12 = .ok (.putfield 44, 3) := by decide +kernel
theorem dX0_wipe_15 : decode cX0_wipe 15 = .ok (.aload_n 0, 1) := by decide +kernel
theorem dX0_wipe_16 : decode cX0_wipe 16 = .ok (.iconst 0, 1) := by decide +kernel
theorem dX0_wipe_17 : decode cX0_wipe 17 = .ok (.putfield 47, 3) := by decide +kernel
theorem dX0_wipe_20 : decode cX0_wipe 20 = .ok (.aload_n 0, 1) := by decide +kernel
theorem dX0_wipe_21 : decode cX0_wipe 21 = .ok (.iconst 0, 1) := by decide +kernel
theorem dX0_wipe_22 : decode cX0_wipe 22 = .ok (.putfield 50, 3) := by decide +kernel
theorem dX0_wipe_25 : decode cX0_wipe 25 = .ok (.aload_n 0, 1) := by decide +kernel
theorem dX0_wipe_26 : decode cX0_wipe 26 = .ok (.iconst 0, 1) := by decide +kernel
theorem dX0_wipe_27 : decode cX0_wipe 27 = .ok (.putfield 53, 3) := by decide +kernel
theorem dX0_wipe_30 : decode cX0_wipe 30 = .ok (.aload_n 0, 1) := by decide +kernel
theorem dX0_wipe_31 : decode cX0_wipe 31 = .ok (.iconst 0, 1) := by decide +kernel
theorem dX0_wipe_32 : decode cX0_wipe 32 = .ok (.putfield 56, 3) := by decide +kernel
theorem dX0_wipe_35 : decode cX0_wipe 35 = .ok (.aload_n 0, 1) := by decide +kernel
theorem dX0_wipe_36 : decode cX0_wipe 36 = .ok (.iconst 0, 1) := by decide +kernel
theorem dX0_wipe_37 : decode cX0_wipe 37 = .ok (.putfield 59, 3) := by decide +kernel
theorem dX0_wipe_40 : decode cX0_wipe 40 = .ok (.aload_n 0, 1) := by decide +kernel
theorem dX0_wipe_41 : decode cX0_wipe 41 = .ok (.getfield 9, 3) := by decide +kernel
theorem dX0_wipe_44 : decode cX0_wipe 44 = .ok (.iconst 0, 1) := by decide +kernel
theorem dX0_wipe_45 : decode cX0_wipe 45 = .ok (.iconst 1, 1) := by decide +kernel
theorem dX0_wipe_46 : decode cX0_wipe 46 = .ok (.iastore, 1) := by decide +kernel
theorem dX0_wipe_47 : decode cX0_wipe 47 = .ok (.iconst 0, 1) := by decide +kernel
theorem dX0_wipe_48 : decode cX0_wipe 48 = .ok (.istore_n 1, 1) := by decide +kernel
theorem dX0_wipe_49 : decode cX0_wipe 49 = .ok (.iload_n 1, 1) := by decide +kernel
theorem dX0_wipe_50 : decode cX0_wipe 50 = .ok (.bipush 20, 2) := by decide +kernel
theorem dX0_wipe_52 : decode cX0_wipe 52 = .ok (.if_icmp .gt 23, 3) := by decide +kernel
theorem dX0_wipe_55 : decode cX0_wipe 55 = .ok (.aload_n 0, 1) := by decide +kernel
theorem dX0_wipe_56 : decode cX0_wipe 56 = .ok (.getfield 18, 3) := by decide +kernel
theorem dX0_wipe_59 : decode cX0_wipe 59 = .ok (.iload_n 1, 1) := by decide +kernel
theorem dX0_wipe_60 : decode cX0_wipe 60 = .ok (.iconst (-1), 1) := by decide +kernel
theorem dX0_wipe_61 : decode cX0_wipe 61 = .ok (.iastore, 1) := by decide +kernel
theorem dX0_wipe_62 : decode cX0_wipe 62 = .ok (.aload_n 0, 1) := by decide +kernel
theorem dX0_wipe_63 : decode cX0_wipe 63 = .ok (.getfield 21, 3) := by decide +kernel
theorem dX0_wipe_66 : decode cX0_wipe 66 = .ok (.iload_n 1, 1) := by decide +kernel
theorem dX0_wipe_67 : decode cX0_wipe 67 = .ok (.iconst 0, 1) := by decide +kernel
theorem dX0_wipe_68 : decode cX0_wipe 68 = .ok (.iastore, 1) := by decide +kernel
theorem dX0_wipe_69 : decode cX0_wipe 69 = .ok (.iinc 1 1, 3) := by decide +kernel
theorem dX0_wipe_72 : decode cX0_wipe 72 = .ok (.goto (-23), 3) := by decide +kernel
theorem dX0_wipe_75 : decode cX0_wipe 75 = .ok (.return_, 1) := by decide +kernel
theorem eX0_wipe {c : Nat} {W : zWd}  {Q : Option Value → zWd → Prop} {X : zX} (hc : zCt c) (hBy : ∀ i : Int, 0 ≤ i → i < 48 → -128 ≤ W (c + 6) i ∧ W (c + 6) i < 128) (hq : ∀ W' : zWd, zOff c W W' → zCP W' c a00 → Q none W') : Ev MX0_wipe 0 0 W [.ref c] Q X := by
  refine ev_of (ls := [.ref c, .null]) (by decide) rfl (fun _ => rfl) (fun _ => Nat.le_of_ble_eq_true rfl) (Or.inl rfl) ?_
  have loop : ∀ (n : Nat) (i : Int) (Wi : zWd), 0 ≤ i → i ≤ 21 → zOff c W Wi → (∀ j : Int, 0 ≤ j → j < 8 → Wi c j = 0) → Wi (c + 1) 0 = 1 → (∀ s : Int, 0 ≤ s → s < i → Wi (c + 3) s = -1 ∧ Wi (c + 4) s = 0) → Wi (c + 6) = W (c + 6) → (21 - i).toNat < n → RR MX0_wipe 0 0 Wi 49 [.ref c, zI i] [] (zEnd MX0_wipe Q X) X := by
    intro n
    induction n with
    | zero => intro i Wi _ _ _ _ _ _ _ hm9; omega
    | succ n ih =>
      intro i Wi h1 h2 hO hZ hF hS hB hm9
      refine rr_iload_n (pc := 49) dX0_wipe_49 rfl ?_
      refine rr_bipush (n := (20)) dX0_wipe_50 ?_
      refine rr_icmp_gt (pc := 52) (tgt := 75) dX0_wipe_52 (by decide) (by unfold zR; omega) (by unfold zR; omega) (fun h52 => ?_) (fun h52 => ?_)
      · exact rr_retv (pc := 75) dX0_wipe_75 rfl rfl (hq Wi hO ⟨⟨hZ 0 (by omega) (by omega), hZ 1 (by omega) (by omega), hZ 2 (by omega) (by omega), hZ 3 (by omega) (by omega), hZ 4 (by omega) (by omega), hZ 5 (by omega) (by omega), hZ 6 (by omega) (by omega), hZ 7 (by omega) (by omega), fun r g1 g2 => by rw [show r = 0 by have : (r : Int) ≤ 0 := g2; omega]; exact hF, fun s g1 g2 g3 => absurd (show s ≤ 0 from g3) (by omega), fun p g1 g2 => absurd (show p < 0 from g2) (by omega), by rw [hB]; exact hBy⟩, fun s g1 g2 g3 => hS s g3 (by omega), zPf_0⟩)
      · refine rr_aload_n (pc := 55) dX0_wipe_55 rfl ?_
        refine rr_getR (pc := 56) dX0_wipe_56 fX0_18 hc.k hc.r10 ?_
        refine rr_iload_n (pc := 59) dX0_wipe_59 rfl ?_
        refine rr_iconst (n := (-1)) dX0_wipe_60 ?_
        refine rr_iast (pc := 61) dX0_wipe_61 hc.a3 (by omega) (by omega) ?_
        refine rr_aload_n (pc := 62) dX0_wipe_62 rfl ?_
        refine rr_getR (pc := 63) dX0_wipe_63 fX0_21 hc.k hc.r11 ?_
        refine rr_iload_n (pc := 66) dX0_wipe_66 rfl ?_
        refine rr_iconst (n := 0) dX0_wipe_67 ?_
        refine rr_iast (pc := 68) dX0_wipe_68 hc.a4 (by omega) (by omega) ?_
        refine rr_iinc (pc := 69) dX0_wipe_69 rfl (by decide) ?_
        refine rr_goto (pc := 72) (tgt := 49) dX0_wipe_72 (by decide) ?_
        refine ih (i + 1) _ (by omega) (by omega) ((hO.up (by omega)).up (by omega)) (fun j g1 g2 => by rw [zup_k (by omega), zup_k (by omega)]; exact hZ j g1 g2) (by rw [zup_k (by omega), zup_k (by omega)]; exact hF) (fun s g1 g2 => ?_) (by rw [zup_other _ (by omega), zup_other _ (by omega)]; exact hB) (by omega)
        by_cases q : s = i
        · subst q; rw [zup_k (by omega), zup_s, zup_s]; exact ⟨rfl, rfl⟩
        · rw [zup_k (by omega), zup_i q, zup_i q, zup_k (by omega)]; exact hS s g1 (by omega)
  refine rr_aload_n (pc := 0) dX0_wipe_0 rfl ?_
  refine rr_iconst (n := 0) dX0_wipe_1 ?_
  refine rr_put (pc := 2) (ji := 0) dX0_wipe_2 fX0_37 fp_0_0 hc.k hc.i0 rfl ?_
  refine rr_aload_n (pc := 5) dX0_wipe_5 rfl ?_
  refine rr_iconst (n := 0) dX0_wipe_6 ?_
  refine rr_put (pc := 7) (ji := 1) dX0_wipe_7 fX0_41 fp_0_1 hc.k hc.i1 rfl ?_
  refine rr_aload_n (pc := 10) dX0_wipe_10 rfl ?_
  refine rr_iconst (n := 0) dX0_wipe_11 ?_
  refine rr_put (pc := 12) (ji := 2) dX0_wipe_12 fX0_44 fp_0_2 hc.k hc.i2 rfl ?_
  refine rr_aload_n (pc := 15) dX0_wipe_15 rfl ?_
  refine rr_iconst (n := 0) dX0_wipe_16 ?_
  refine rr_put (pc := 17) (ji := 3) dX0_wipe_17 fX0_47 fp_0_3 hc.k hc.i3 rfl ?_
  refine rr_aload_n (pc := 20) dX0_wipe_20 rfl ?_
  refine rr_iconst (n := 0) dX0_wipe_21 ?_
  refine rr_put (pc := 22) (ji := 4) dX0_wipe_22 fX0_50 fp_0_4 hc.k hc.i4 rfl ?_
  refine rr_aload_n (pc := 25) dX0_wipe_25 rfl ?_
  refine rr_iconst (n := 0) dX0_wipe_26 ?_
  refine rr_put (pc := 27) (ji := 5) dX0_wipe_27 fX0_53 fp_0_5 hc.k hc.i5 rfl ?_
  refine rr_aload_n (pc := 30) dX0_wipe_30 rfl ?_
  refine rr_iconst (n := 0) dX0_wipe_31 ?_
  refine rr_put (pc := 32) (ji := 6) dX0_wipe_32 fX0_56 fp_0_6 hc.k hc.i6 rfl ?_
  refine rr_aload_n (pc := 35) dX0_wipe_35 rfl ?_
  refine rr_iconst (n := 0) dX0_wipe_36 ?_
  refine rr_put (pc := 37) (ji := 7) dX0_wipe_37 fX0_59 fp_0_7 hc.k hc.i7 rfl ?_
  refine rr_aload_n (pc := 40) dX0_wipe_40 rfl ?_
  refine rr_getR (pc := 41) dX0_wipe_41 fX0_9 hc.k hc.r8 ?_
  refine rr_iconst (n := 0) dX0_wipe_44 ?_
  refine rr_iconst (n := 1) dX0_wipe_45 ?_
  refine rr_iast (pc := 46) dX0_wipe_46 hc.a1 (by omega) (by omega) ?_
  refine rr_iconst (n := 0) dX0_wipe_47 ?_
  refine rr_istore_n (pc := 48) dX0_wipe_48 (by decide) ?_
  refine loop _ 0 _ (by omega) (by omega) (((((((((zOff.rf.up (by omega)).up (by omega)).up (by omega)).up (by omega)).up (by omega)).up (by omega)).up (by omega)).up (by omega)).up (by omega)) (fun j g1 g2 => ?_) zup_s (fun s g1 g2 => by omega) (by repeat rw [zup_other _ (by omega)]) (Nat.lt_succ_self _)
  rw [zup_k (by omega)]
  have hj : j = 0 ∨ j = 1 ∨ j = 2 ∨ j = 3 ∨ j = 4 ∨ j = 5 ∨ j = 6 ∨ j = 7 := by omega
  rcases hj with rfl | rfl | rfl | rfl | rfl | rfl | rfl | rfl <;> simp [zup]
theorem dX0_addRow_0 : decode cX0_addRow 0 = .ok (.aload_n 0, 1) := by decide +kernel
theorem dX0_addRow_1 : decode cX0_addRow 1 = .ok (.getfield 37, 3) := by decide +kernel
theorem dX0_addRow_4 : decode cX0_addRow 4 = .ok (.bipush 10, 2) := by decide +kernel
theorem dX0_addRow_6 : decode cX0_addRow 6 = .ok (.if_icmp .ge 14, 3) := by decide +kernel
theorem dX0_addRow_9 : decode cX0_addRow 9 = .ok (.aload_n 0, 1) := by decide +kernel
theorem dX0_addRow_10 : decode cX0_addRow 10 = .ok (.getfield 41, 3) := by decide +kernel
theorem dX0_addRow_13 : decode cX0_addRow 13 = .ok (.iload_n 1, 1) := by decide +kernel
theorem dX0_addRow_14 : decode cX0_addRow 14 = .ok (.iadd, 1) := by decide +kernel
theorem dX0_addRow_15 : decode cX0_addRow 15 = .ok (.bipush 20, 2) := by decide +kernel
theorem dX0_addRow_17 : decode cX0_addRow 17 = .ok (.if_icmp .le 4, 3) := by decide +kernel
theorem dX0_addRow_20 : decode cX0_addRow 20 = .ok (.return_, 1) := by decide +kernel
theorem dX0_addRow_21 : decode cX0_addRow 21 = .ok (.iconst 0, 1) := by decide +kernel
theorem dX0_addRow_22 : decode cX0_addRow 22 = .ok (.istore_n 2, 1) := by decide +kernel
theorem dX0_addRow_23 : decode cX0_addRow 23 = .ok (.iload_n 2, 1) := by decide +kernel
theorem dX0_addRow_24 : decode cX0_addRow 24 = .ok (.iload_n 1, 1) := by decide +kernel
theorem dX0_addRow_25 : decode cX0_addRow 25 = .ok (.if_icmp .ge 32, 3) := by decide +kernel
theorem dX0_addRow_28 : decode cX0_addRow 28 = .ok (.aload_n 0, 1) := by decide +kernel
theorem dX0_addRow_29 : decode cX0_addRow 29 = .ok (.dup, 1) := by decide +kernel
theorem dX0_addRow_30 : decode cX0_addRow 30 = .ok (.getfield 41, 3) := by decide +kernel
theorem dX0_addRow_33 : decode cX0_addRow 33 = .ok (.iconst 1, 1) := by decide +kernel
theorem dX0_addRow_34 : decode cX0_addRow 34 = .ok (.iadd, 1) := by decide +kernel
theorem dX0_addRow_35 : decode cX0_addRow 35 = .ok (.putfield 41, 3) := by decide +kernel
theorem dX0_addRow_38 : decode cX0_addRow 38 = .ok (.aload_n 0, 1) := by decide +kernel
theorem dX0_addRow_39 : decode cX0_addRow 39 = .ok (.getfield 15, 3) := by decide +kernel
theorem dX0_addRow_42 : decode cX0_addRow 42 = .ok (.aload_n 0, 1) := by decide +kernel
theorem dX0_addRow_43 : decode cX0_addRow 43 = .ok (.getfield 41, 3) := by decide +kernel
theorem dX0_addRow_46 : decode cX0_addRow 46 = .ok (.aload_n 0, 1) := by decide +kernel
theorem dX0_addRow_47 : decode cX0_addRow 47 = .ok (.getfield 37, 3) := by decide +kernel
theorem dX0_addRow_50 : decode cX0_addRow 50 = .ok (.iastore, 1) := by decide +kernel
theorem dX0_addRow_51 : decode cX0_addRow 51 = .ok (.iinc 2 1, 3) := by decide +kernel
theorem dX0_addRow_54 : decode cX0_addRow 54 = .ok (.goto (-31), 3) := by decide +kernel
theorem dX0_addRow_57 : decode cX0_addRow 57 = .ok (.aload_n 0, 1) := by decide +kernel
theorem dX0_addRow_58 : decode cX0_addRow 58 = .ok (.dup, 1) := by decide +kernel
theorem dX0_addRow_59 : decode cX0_addRow 59 = .ok (.getfield 37, 3) := by decide +kernel
theorem dX0_addRow_62 : decode cX0_addRow 62 = .ok (.iconst 1, 1) := by decide +kernel
theorem dX0_addRow_63 : decode cX0_addRow 63 = .ok (.iadd, 1) := by decide +kernel
theorem dX0_addRow_64 : decode cX0_addRow 64 = .ok (.putfield 37, 3) := by decide +kernel
theorem dX0_addRow_67 : decode cX0_addRow 67 = .ok (.aload_n 0, 1) := by decide +kernel
theorem dX0_addRow_68 : decode cX0_addRow 68 = .ok (.getfield 9, 3) := by decide +kernel
theorem dX0_addRow_71 : decode cX0_addRow 71 = .ok (.aload_n 0, 1) := by decide +kernel
theorem dX0_addRow_72 : decode cX0_addRow 72 = .ok (.getfield 37, 3) := by decide +kernel
theorem dX0_addRow_75 : decode cX0_addRow 75 = .ok (.aload_n 0, 1) := by decide +kernel
theorem dX0_addRow_76 : decode cX0_addRow 76 = .ok (.getfield 41, 3) := by decide +kernel
theorem dX0_addRow_79 : decode cX0_addRow 79 = .ok (.iconst 1, 1) := by decide +kernel
theorem dX0_addRow_80 : decode cX0_addRow 80 = .ok (.iadd, 1) := by decide +kernel
theorem dX0_addRow_81 : decode cX0_addRow 81 = .ok (.iastore, 1) := by decide +kernel
theorem dX0_addRow_82 : decode cX0_addRow 82 = .ok (.return_, 1) := by decide +kernel
theorem eX0_addRow {c : Nat} {W : zWd} {a : Int → Int} {w : Int} {Q : Option Value → zWd → Prop} {X : zX} (hc : zCt c) (hC : zCP W c a) (h9 : a 0 < 10) (hw1 : 1 ≤ w) (hw2 : w ≤ 2) (hq : ∀ W' : zWd, zOff c W W' → zCP W' c (aRow a w) → Q none W') : Ev MX0_addRow 0 0 W [.ref c, zI w] Q X := by
  refine ev_of (ls := [.ref c, zI w, .null]) (by decide) rfl (fun _ => rfl) (fun _ => Nat.le_of_ble_eq_true rfl) (Or.inl rfl) ?_
  obtain ⟨r0, r1, r2, r3, r4, r5, r6, r7, rF, rS, rP, rB⟩ := id hC.1
  have hsq := hC.2.2.sq
  have hp0 := hC.2.2.1
  have loop : ∀ (n : Nat) (i : Int) (Wi : zWd), 0 ≤ i → i ≤ w → zOff c W Wi → Wi c 0 = a 0 → Wi c 1 = a 1 + i → (∀ j : Int, 2 ≤ j → Wi c j = W c j) → Wi (c + 1) = W (c + 1) → (∀ s : Int, s ≤ a 1 → Wi (c + 2) s = W (c + 2) s) → (∀ s : Int, a 1 < s → s ≤ a 1 + i → Wi (c + 2) s = a 0) → (∀ k : Nat, c + 3 ≤ k → k < c + 8 → Wi k = W k) → (w - i).toNat < n → RR MX0_addRow 0 0 Wi 23 [.ref c, zI w, zI i] [] (zEnd MX0_addRow Q X) X := by
    intro n
    induction n with
    | zero => intro i Wi _ _ _ _ _ _ _ _ _ _ hm9; omega
    | succ n ih =>
      intro i Wi h1 h2 hO e0 e1 e2 eF eR eR1 eo hm9
      refine rr_iload_n (pc := 23) dX0_addRow_23 rfl ?_
      refine rr_iload_n (pc := 24) dX0_addRow_24 rfl ?_
      refine rr_icmp_ge (pc := 25) (tgt := 57) dX0_addRow_25 (by decide) (by unfold zR; omega) (by unfold zR; omega) (fun h25 => ?_) (fun h25 => ?_)
      · refine rr_aload_n (pc := 57) dX0_addRow_57 rfl ?_
        refine rr_dup_r (pc := 58) dX0_addRow_58 ?_
        refine rr_getI (pc := 59) (ji := 0) dX0_addRow_59 fX0_37 hc.k hc.i0 rfl ?_
        rw [e0]
        refine rr_iconst (n := 1) dX0_addRow_62 ?_
        refine rr_iadd (pc := 63) dX0_addRow_63 ?_
        refine rr_put (pc := 64) (ji := 0) dX0_addRow_64 fX0_37 fp_0_0 hc.k hc.i0 rfl ?_
        refine rr_aload_n (pc := 67) dX0_addRow_67 rfl ?_
        refine rr_getR (pc := 68) dX0_addRow_68 fX0_9 hc.k hc.r8 ?_
        refine rr_aload_n (pc := 71) dX0_addRow_71 rfl ?_
        refine rr_getI (pc := 72) (ji := 0) dX0_addRow_72 fX0_37 hc.k hc.i0 rfl ?_
        rw [zup_s]
        refine rr_aload_n (pc := 75) dX0_addRow_75 rfl ?_
        refine rr_getI (pc := 76) (ji := 1) dX0_addRow_76 fX0_41 hc.k hc.i1 rfl ?_
        rw [zup_i (show (1 : Int) ≠ 0 by decide), e1, show i = w by omega]
        refine rr_iconst (n := 1) dX0_addRow_79 ?_
        refine rr_iadd (pc := 80) dX0_addRow_80 ?_
        refine rr_iast (pc := 81) dX0_addRow_81 hc.a1 (by omega) (by omega) ?_
        exact rr_retv (pc := 82) dX0_addRow_82 rfl rfl (hq _ ((hO.up (by omega)).up (by omega)) (CP_row hC (by omega) hw1 hw2 (by rw [zup_k (by omega), zup_s]) (by rw [zup_k (by omega), zup_i (by decide), e1, show i = w by omega]) (fun j g1 => by rw [zup_k (by omega), zup_i (by omega)]; exact e2 j g1) (fun r g1 => by rw [zup_i g1, zup_k (by omega), eF]) zup_s (fun s g1 => by rw [zup_k (by omega), zup_k (by omega)]; exact eR s g1) (fun s g1 g2 => by rw [zup_k (by omega), zup_k (by omega)]; exact eR1 s g1 (by omega)) (fun k g1 g2 => by rw [zup_other _ (by omega), zup_other _ (by omega)]; exact eo k g1 g2)))
      · refine rr_aload_n (pc := 28) dX0_addRow_28 rfl ?_
        refine rr_dup_r (pc := 29) dX0_addRow_29 ?_
        refine rr_getI (pc := 30) (ji := 1) dX0_addRow_30 fX0_41 hc.k hc.i1 rfl ?_
        rw [e1]
        refine rr_iconst (n := 1) dX0_addRow_33 ?_
        refine rr_iadd (pc := 34) dX0_addRow_34 ?_
        refine rr_put (pc := 35) (ji := 1) dX0_addRow_35 fX0_41 fp_0_1 hc.k hc.i1 rfl ?_
        refine rr_aload_n (pc := 38) dX0_addRow_38 rfl ?_
        refine rr_getR (pc := 39) dX0_addRow_39 fX0_15 hc.k hc.r9 ?_
        refine rr_aload_n (pc := 42) dX0_addRow_42 rfl ?_
        refine rr_getI (pc := 43) (ji := 1) dX0_addRow_43 fX0_41 hc.k hc.i1 rfl ?_
        rw [zup_s]
        refine rr_aload_n (pc := 46) dX0_addRow_46 rfl ?_
        refine rr_getI (pc := 47) (ji := 0) dX0_addRow_47 fX0_37 hc.k hc.i0 rfl ?_
        rw [zup_i (show (0 : Int) ≠ 1 by decide), e0]
        refine rr_iast (pc := 50) dX0_addRow_50 hc.a2 (by omega) (by omega) ?_
        refine rr_iinc (pc := 51) dX0_addRow_51 rfl (by decide) ?_
        refine rr_goto (pc := 54) (tgt := 23) dX0_addRow_54 (by decide) ?_
        refine ih (i + 1) _ (by omega) (by omega) ((hO.up (by omega)).up (by omega)) (by rw [zup_k (by omega), zup_i (by omega)]; exact e0) (by rw [zup_k (by omega), zup_s]; omega) (fun j g1 => by rw [zup_k (by omega), zup_i (by omega)]; exact e2 j g1) (by rw [zup_other _ (by omega), zup_other _ (by omega)]; exact eF) (fun s g1 => by rw [zup_i (by omega), zup_k (by omega)]; exact eR s g1) (fun s g1 g2 => ?_) (fun k g1 g2 => by rw [zup_other _ (by omega), zup_other _ (by omega)]; exact eo k g1 g2) (by omega)
        by_cases q : s = a 1 + i + 1
        · subst q; exact zup_s
        · rw [zup_i q, zup_k (by omega)]; exact eR1 s g1 (by omega)
  refine rr_aload_n (pc := 0) dX0_addRow_0 rfl ?_
  refine rr_getI (pc := 1) (ji := 0) dX0_addRow_1 fX0_37 hc.k hc.i0 rfl ?_
  rw [r0]
  refine rr_bipush (n := (10)) dX0_addRow_4 ?_
  refine rr_icmp_ge (pc := 6) (tgt := 20) dX0_addRow_6 (by decide) (by unfold zR; omega) (by unfold zR; omega) (fun h6 => ?_) (fun h6 => ?_)
  · omega
  · refine rr_aload_n (pc := 9) dX0_addRow_9 rfl ?_
    refine rr_getI (pc := 10) (ji := 1) dX0_addRow_10 fX0_41 hc.k hc.i1 rfl ?_
    rw [r1]
    refine rr_iload_n (pc := 13) dX0_addRow_13 rfl ?_
    refine rr_iadd (pc := 14) dX0_addRow_14 ?_
    refine rr_bipush (n := (20)) dX0_addRow_15 ?_
    refine rr_icmp_le (pc := 17) (tgt := 21) dX0_addRow_17 (by decide) (by unfold zR; omega) (by unfold zR; omega) (fun h17 => ?_) (fun h17 => ?_)
    · refine rr_iconst (n := 0) dX0_addRow_21 ?_
      refine rr_istore_n (pc := 22) dX0_addRow_22 (by decide) ?_
      exact loop _ 0 W (by omega) (by omega) zOff.rf r0 (by rw [r1]; omega) (fun _ _ => rfl) rfl (fun _ _ => rfl) (fun s g1 g2 => by omega) (fun _ _ _ => rfl) (Nat.lt_succ_self _)
    · omega
