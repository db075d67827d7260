/-! ranges are kept -/
def zWr (T : Int) (a : Int → Int) (w v : Int) : Prop :=
  (w = 0 ∧ 1 ≤ v ∧ v ≤ 4) ∨ (w = 1 ∧ 1 ≤ v ∧ v ≤ 9) ∨ (w = 2 ∧ 0 ≤ v ∧ v ≤ a 1) ∨ (w = 3 ∧ 0 ≤ v ∧ v ≤ 9) ∨ (w = 4 ∧ 0 ≤ v ∧ v ≤ T) ∨ (w = 5 ∧ 0 ≤ v ∧ v ≤ a 1) ∨ (w = 6 ∧ 0 ≤ v ∧ v ≤ T) ∨ (w = 7 ∧ 0 ≤ v ∧ v ≤ T) ∨ (w = 8 ∧ 0 ≤ v ∧ v ≤ 5)
theorem WF_P {T : Int} {a : Int → Int} {p w v : Int} (h : zWf T a) (hp0 : 0 ≤ p) (hv : zWr T a w v) : zWf T (iup a (58 + 17 * p + w) v) := by
  obtain ⟨w0, w0', wW, w1, w2, w2', w3, w3', w4, w4', w5, w5', w6, w6', w7, w7', wS, wP, wT⟩ := h
  have hw : 0 ≤ w ∧ w ≤ 8 := by unfold zWr at hv; omega
  have na : ∀ i : Int, i < 58 → iup a (58 + 17 * p + w) v i = a i := fun i hi => iup_n (by omega)
  have nF : ∀ i : Int, 8 ≤ i → i < 18 → iup a (58 + 17 * p + w) v i = a i := fun i _ hi => na i (by omega)
  have wq : a 1 ≤ 20 := (zWf.sq ⟨w0, w0', wW, w1, w2, w2', w3, w3', w4, w4', w5, w5', w6, w6', w7, w7', wS, wP, wT⟩).2
  unfold zWf
  rw [na 0 (by omega), na 1 (by omega), na 2 (by omega), na 3 (by omega), na 4 (by omega), na 5 (by omega), na 6 (by omega), na 7 (by omega), aF_cg nF _ (by omega)]
  refine ⟨w0, w0', ?_, w1, w2, w2', w3, w3', w4, w4', w5, w5', w6, w6', w7, w7', ?_, ?_, wT⟩
  · intro r h1 h2
    rw [na _ (by omega)]; exact wW r h1 h2
  · intro s h1 h2
    unfold aO aL
    rw [na _ (by omega), na _ (by omega)]; exact wS s h1 h2
  · intro p' h1 h2
    have h9 := wP p' h1 h2
    unfold zWfP at h9 ⊢
    rw [na 1 (by omega)]
    unfold zWr at hv
    by_cases hpp : p' = p
    · subst hpp
      unfold aP at h9 ⊢
      simp only [iup]
      refine ⟨?_, ?_, ?_, ?_, ?_, ?_, ?_, ?_, ?_, ?_, ?_, ?_, ?_, ?_, ?_, ?_, ?_, ?_⟩
      all_goals (split <;> omega)
    · have ea : ∀ k : Int, 0 ≤ k → k ≤ 8 → aP (iup a (58 + 17 * p + w) v) p' k = aP a p' k := fun k h1 h2 => by unfold aP; exact iup_n (by omega)
      rw [ea 0 (by omega) (by omega), ea 1 (by omega) (by omega), ea 2 (by omega) (by omega), ea 3 (by omega) (by omega), ea 4 (by omega) (by omega), ea 5 (by omega) (by omega), ea 6 (by omega) (by omega), ea 7 (by omega) (by omega), ea 8 (by omega) (by omega)]
      exact h9
theorem WF_0 {T : Int} {a : Int → Int} {j v : Int} (h : zWf T a) (hv : (j = 3 ∧ -9 ≤ v ∧ v ≤ 9) ∨ (j = 4 ∧ 0 ≤ v ∧ v < a 2) ∨ ((j = 5 ∨ j = 6 ∨ j = 7) ∧ 0 ≤ v ∧ v ≤ T)) : zWf T (iup a j v) := by
  obtain ⟨w0, w0', wW, w1, w2, w2', w3, w3', w4, w4', w5, w5', w6, w6', w7, w7', wS, wP, wT⟩ := h
  have na : ∀ i : Int, i < 3 ∨ 7 < i → iup a j v i = a i := fun i hi => iup_n (by omega)
  have nF : ∀ i : Int, 8 ≤ i → i < 18 → iup a j v i = a i := fun i _ hi => na i (by omega)
  unfold zWf
  rw [na 0 (by omega), na 1 (by omega), na 2 (by omega), aF_cg nF _ (by omega)]
  refine ⟨w0, w0', ?_, w1, w2, w2', ?_, ?_, ?_, ?_, ?_, ?_, ?_, ?_, ?_, ?_, ?_, ?_, wT⟩
  · intro r h1 h2
    rw [na _ (by omega)]; exact wW r h1 h2
  iterate 10 (unfold iup; split <;> omega)
  · intro s h1 h2
    unfold aO aL
    rw [na _ (by omega), na _ (by omega)]; exact wS s h1 h2
  · intro p' h1 h2
    have h9 := wP p' h1 h2
    have ea : ∀ k : Int, 0 ≤ k → aP (iup a j v) p' k = aP a p' k := fun k hk => by unfold aP; exact na _ (by omega)
    unfold zWfP at h9 ⊢
    rw [na 1 (by omega), ea 0 (by omega), ea 1 (by omega), ea 2 (by omega), ea 3 (by omega), ea 4 (by omega), ea 5 (by omega), ea 6 (by omega), ea 7 (by omega), ea 8 (by omega)]
    exact h9
theorem WF_S {T : Int} {a : Int → Int} {s v : Int} {o : Nat} (h : zWf T a) (h1 : 1 ≤ s) (h20 : s ≤ 20) (hv : (o = 0 ∧ 0 ≤ v ∧ v ≤ a 2) ∨ (o = 1 ∧ 0 ≤ v ∧ v ≤ T)) : zWf T (iup a (18 + 2 * (s - 1) + o) v) := by
  obtain ⟨w0, w0', wW, w1, w2, w2', w3, w3', w4, w4', w5, w5', w6, w6', w7, w7', wS, wP, wT⟩ := h
  have na : ∀ i : Int, i < 18 ∨ 58 ≤ i → iup a (18 + 2 * (s - 1) + o) v i = a i := fun i hi => iup_n (by omega)
  have nF : ∀ i : Int, 8 ≤ i → i < 18 → iup a (18 + 2 * (s - 1) + o) v i = a i := fun i _ hi => na i (by omega)
  unfold zWf
  rw [na 0 (by omega), na 1 (by omega), na 2 (by omega), na 3 (by omega), na 4 (by omega), na 5 (by omega), na 6 (by omega), na 7 (by omega), aF_cg nF _ (by omega)]
  refine ⟨w0, w0', ?_, w1, w2, w2', w3, w3', w4, w4', w5, w5', w6, w6', w7, w7', ?_, ?_, wT⟩
  · intro r h1 h2
    rw [na _ (by omega)]; exact wW r h1 h2
  · intro s' h1' h2'
    have h9 := wS s' h1' h2'
    unfold aO aL at h9 ⊢
    simp only [iup]
    refine ⟨?_, ?_, ?_, ?_⟩
    all_goals (split <;> omega)
  · intro p' h1 h2
    have h9 := wP p' h1 h2
    have ea : ∀ k : Int, 0 ≤ k → aP (iup a (18 + 2 * (s - 1) + o) v) p' k = aP a p' k := fun k hk => by unfold aP; exact na _ (by omega)
    unfold zWfP at h9 ⊢
    rw [na 1 (by omega), ea 0 (by omega), ea 1 (by omega), ea 2 (by omega), ea 3 (by omega), ea 4 (by omega), ea 5 (by omega), ea 6 (by omega), ea 7 (by omega), ea 8 (by omega)]
    exact h9
theorem zWf.mono {T T' : Int} {a : Int → Int} (h : zWf T a) (hT : T ≤ T') (hT2 : T' ≤ 100000000) : zWf T' a := by
  obtain ⟨w0, w0', wW, w1, w2, w2', w3, w3', w4, w4', w5, w5', w6, w6', w7, w7', wS, wP, wT⟩ := h
  refine ⟨w0, w0', wW, w1, w2, w2', w3, w3', w4, w4', w5, by omega, w6, by omega, w7, by omega, fun s h1 h2 => ?_, fun p h1 h2 => ?_, hT2⟩
  · have := wS s h1 h2; omega
  · have := wP p h1 h2; unfold zWfP at this ⊢; omega
/-! squares that are free for a player -/
theorem aOpn_cg {a a' : Int → Int} {p : Int} : ∀ (n : Nat) (s : Int), (∀ s' : Int, s ≤ s' → s' < s + n → aO a' s' = aO a s') → aOpn a' p n s = aOpn a p n s := by
  intro n
  induction n with
  | zero => intro s _; rfl
  | succ n ih =>
    intro s h
    have h0 := h s (by omega) (by omega)
    have h1 := ih (s + 1) (fun s' g1 g2 => h s' (by omega) (by omega))
    unfold aOpn aForb
    rw [h0, h1]
theorem aOpen_cg {a a' : Int → Int} {p s : Int} (h1 : a' 1 = a 1) (h : ∀ s' : Int, s ≤ s' → s' ≤ a 1 → aO a' s' = aO a s') : aOpen a' p s = aOpen a p s := by
  unfold aOpen
  rw [h1]
  exact aOpn_cg _ _ (fun s' g1 g2 => h s' g1 (by omega))
theorem aOpn_in {a : Int → Int} {p : Int} : ∀ (n : Nat) (s : Int), aOpn a p n s = 0 ∧ (∀ s' : Int, s ≤ s' → s' < s + n → aForb a p s') ∨ (s ≤ aOpn a p n s ∧ aOpn a p n s < s + n ∧ ¬ aForb a p (aOpn a p n s) ∧ ∀ s' : Int, s ≤ s' → s' < aOpn a p n s → aForb a p s') := by
  intro n
  induction n with
  | zero => intro s; exact Or.inl ⟨rfl, fun s' h1 h2 => by omega⟩
  | succ n ih =>
    intro s
    unfold aOpn
    by_cases h : aForb a p s
    · rw [if_pos h]
      rcases ih (s + 1) with ⟨g1, g2⟩ | ⟨g1, g2, g3, g4⟩
      · refine Or.inl ⟨g1, fun s' h1 h2 => ?_⟩
        by_cases q : s' = s
        · subst q; exact h
        · exact g2 s' (by omega) (by omega)
      · refine Or.inr ⟨by omega, by omega, g3, fun s' h1 h2 => ?_⟩
        by_cases q : s' = s
        · subst q; exact h
        · exact g4 s' (by omega) h2
    · rw [if_neg h]
      exact Or.inr ⟨by omega, by omega, h, fun s' h1 h2 => by omega⟩
theorem aOpen_in {a : Int → Int} {p s : Int} (hs : 1 ≤ s) : aOpen a p s = 0 ∧ (∀ s' : Int, s ≤ s' → s' ≤ a 1 → aForb a p s') ∨ (s ≤ aOpen a p s ∧ aOpen a p s ≤ a 1 ∧ ¬ aForb a p (aOpen a p s) ∧ ∀ s' : Int, s ≤ s' → s' < aOpen a p s → aForb a p s') := by
  rcases aOpn_in (a := a) (p := p) (a 1 + 1 - s).toNat s with ⟨h1, h2⟩ | ⟨h1, h2, h3, h4⟩
  · exact Or.inl ⟨h1, fun s' g1 g2 => h2 s' g1 (by omega)⟩
  · refine Or.inr ⟨h1, ?_, h3, h4⟩
    show aOpn a p (a 1 + 1 - s).toNat s ≤ a 1
    omega
theorem aOpen_rng {a : Int → Int} {p s : Int} (hs : 1 ≤ s) (ha : 0 ≤ a 1) : 0 ≤ aOpen a p s ∧ aOpen a p s ≤ a 1 := by
  rcases aOpen_in (a := a) (p := p) hs with h | h <;> omega
theorem aOpen_step {a : Int → Int} {p s : Int} (h : s ≤ a 1) : aOpen a p s = if aForb a p s then aOpen a p (s + 1) else s := by
  unfold aOpen
  rw [show (a 1 + 1 - s).toNat = (a 1 + 1 - (s + 1)).toNat + 1 by omega]
  rfl
theorem aOpen_end {a : Int → Int} {p s : Int} (h : a 1 < s) : aOpen a p s = 0 := by
  unfold aOpen
  rw [show (a 1 + 1 - s).toNat = 0 by omega]
  rfl
/-! a row's footing out of sets -/
def zRow (f : Nat) (w : Int) : Nat := if w = 2 then 2 ^ f ||| 2 ^ (f + 1) else 2 ^ f
theorem zRow_sub {f : Nat} {w : Int} (hw : 1 ≤ w ∧ w ≤ 2) (hf : f < 21) : ((2 ^ ((f : Int) + w).toNat : Nat) : Int) - ((2 ^ f : Nat) : Int) = (zRow f w : Nat) := by
  unfold zRow
  have h9 := (z_sum f hf).1
  by_cases h : w = 2
  · subst h
    rw [if_pos rfl, h9, show ((f : Int) + 2).toNat = f + 1 + 1 by omega, Nat.pow_succ, Nat.pow_succ]
    omega
  · rw [if_neg h, show ((f : Int) + w).toNat = f + 1 by omega, Nat.pow_succ]
    omega
theorem zRow_lt {f : Nat} {w : Int} (hf : f < 20) : zRow f w < 2097152 := by
  unfold zRow
  have h1 : 2 ^ f < 2 ^ 21 := Nat.pow_lt_pow_right (by decide) (by omega)
  have h2 : 2 ^ (f + 1) < 2 ^ 21 := Nat.pow_lt_pow_right (by decide) (by omega)
  split
  · exact Nat.or_lt_two_pow h1 h2
  · exact h1
theorem zFo_spec {f u o : Nat} {w : Int} (hw : 1 ≤ w ∧ w ≤ 2) (hf : f < 21) (hf2 : w = 2 → f < 20) : zFo f w (fun i => u.testBit i) (fun i => o.testBit i) = if zRow f w &&& u = 0 then 0 else if zPc (zRow f w &&& u) = 2 ∨ zRow f w &&& u &&& o ≠ 0 then 2 else 1 := by
  have p1 : 2 ^ f ≠ 0 := by have := Nat.two_pow_pos f; omega
  have p2 : 2 ^ (f + 1) ≠ 0 := by have := Nat.two_pow_pos (f + 1); omega
  obtain ⟨-, c1, c2⟩ := z_sum f hf
  have e1 : ∀ x : Nat, 2 ^ f &&& x = if x.testBit f then 2 ^ f else 0 := fun x => z_row1 f x
  unfold zFo zRow
  by_cases h : w = 2
  · subst h
    have c3 := (z_sum (f + 1) (by have := hf2 rfl; omega)).2.1
    have c2 := c2 (hf2 rfl)
    have q9 : ¬ (2 ^ f ||| 2 ^ (f + 1) = 0) := fun q => p1 (z_or0.mp q).1
    rw [if_pos rfl, z_row2]
    cases hu : u.testBit f <;> cases hu2 : u.testBit (f + 1) <;> cases ho : o.testBit f <;> cases ho2 : o.testBit (f + 1) <;> simp [p1, p2, q9, c1, c2, c3, z_row1, z_row2, Nat.and_or_distrib_right, hu, hu2, ho, ho2]
  · rw [if_neg h, z_row1]
    cases hu : u.testBit f <;> cases ho : o.testBit f <;> simp [h, p1, c1, z_row1, hu, ho]
