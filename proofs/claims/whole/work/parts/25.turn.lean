/-! TURNS -/
def aBoth (a : Int → Int) (q tg : Int) : Prop := aCost a q tg (aRc a q) 0 ≠ -1 ∧ aCost a q tg (aRc a q) 1 ≠ -1
def aPlC (a : Int → Int) (q : Int) : Nat → Int
  | 0 => 0
  | n + 1 => aPlC a q n + (if ¬ aForb a q ((n : Int) + 1) ∧ ¬ (aCost a q ((n : Int) + 1) (aRc a q) 0 = -1 ∨ aCost a q ((n : Int) + 1) (aRc a q) 1 = -1) then 1 else 0)
def aPlay (a : Int → Int) (q : Int) : Int := aPlC a q (a 1).toNat
theorem aPlC_rng (a : Int → Int) (q : Int) : ∀ n : Nat, 0 ≤ aPlC a q n ∧ aPlC a q n ≤ n := by
  intro n
  induction n with
  | zero => exact ⟨Int.le_refl _, Int.le_refl _⟩
  | succ n ih => unfold aPlC; split <;> omega
def aOth (a : Int → Int) (q : Int) : Nat → Int
  | 0 => 0
  | n + 1 => aOth a q n + (if (n : Int) = q then 0 else aPlay a n)
def aLands (P : Int → Bool) : List Int → (Int → Int) → (Int → Int)
  | [], a => a
  | r :: t, a => aLands P t (aLand a r P)
/-- hops are made: landings, and their number -/
def aMkH (a : Int → Int) (P : Int → Bool) (R : List Int) : Int → Int := iup (aLands P R a) 6 (a 6 + R.length)
theorem aLd_out (P : Int → Bool) : ∀ (n : Nat) (s : Int) (a : Int → Int) (j : Int), 1 ≤ s → s + n ≤ 21 → (j < 18 ∨ 58 ≤ j) → aLd P n s a j = a j := by
  intro n
  induction n with
  | zero => intro s a j _ _ _; rfl
  | succ n ih =>
    intro s a j h1 h2 h3
    unfold aLd
    rw [ih _ _ j (by omega) (by omega) h3]
    split
    · exact iup_n (by omega)
    · rfl
theorem aLd_cg {P P' : Int → Bool} : ∀ (n : Nat) (s : Int) (a : Int → Int), (∀ s' : Int, s ≤ s' → s' < s + n → P s' = P' s') → aLd P n s a = aLd P' n s a := by
  intro n
  induction n with
  | zero => intro s a _; rfl
  | succ n ih =>
    intro s a h
    unfold aLd
    rw [h s (by omega) (by omega)]
    exact ih _ _ (fun s' g1 g2 => h s' (by omega) (by omega))
theorem aLd_wf (P : Int → Bool) {T : Int} (hT : T + 1 ≤ 100000000) : ∀ (n : Nat) (s : Int) (a : Int → Int), 1 ≤ s → s + n ≤ a 1 + 1 → zWf (T + 1) a → (∀ s' : Int, s ≤ s' → s' ≤ a 1 → aL a s' ≤ T) → zWf (T + 1) (aLd P n s a) := by
  intro n
  induction n with
  | zero => intro s a _ _ h _; exact h
  | succ n ih =>
    intro s a h1 h2 hw hL
    have hsq := zWf.sq hw
    unfold aLd
    by_cases hP : P s
    · rw [if_pos hP]
      have h9 := hw.2.2.2.2.2.2.2.2.2.2.2.2.2.2.2.2.1 s h1 (by omega)
      have h8 := hL s (Int.le_refl _) (by omega)
      have e1 : iup a (18 + 2 * (s - 1) + 1) (a (18 + 2 * (s - 1) + 1) + 1) 1 = a 1 := iup_n (by omega)
      refine ih (s + 1) _ (by omega) (by rw [e1]; omega) ?_ (fun s' g1 g2 => ?_)
      · have h7 := WF_S (o := 1) (v := a (18 + 2 * (s - 1) + 1) + 1) hw h1 (by omega) (Or.inr ⟨rfl, by unfold aL at h9 h8; omega, by unfold aL at h9 h8; omega⟩)
        exact h7
      · rw [e1] at g2
        unfold aL
        rw [iup_n (by omega)]
        exact hL s' (by omega) g2
    · rw [if_neg hP]
      exact ih (s + 1) a (by omega) (by omega) hw (fun s' g1 g2 => hL s' (by omega) g2)
theorem aRow_in {T : Int} {a : Int → Int} {r : Int} (hw : zWf T a) (h0 : 0 ≤ r) (h1 : r < a 0) : 1 ≤ aF a r.toNat ∧ aF a r.toNat + (a (8 + r)).toNat ≤ a 1 + 1 := by
  have hf := aF_lo hw (r := r.toNat) (by omega)
  have hf2 := aF_le hw (r := r.toNat + 1) (by omega)
  have hst := aF_step (a := a) r.toNat
  rw [show ((r.toNat : Nat) : Int) = r by omega] at hst
  have hww := hw.2.2.1 r h0 h1
  omega
theorem aLand_out {T : Int} {a : Int → Int} {r : Int} {P : Int → Bool} (hw : zWf T a) {j : Int} (hj : j < 18 ∨ 58 ≤ j) : aLand a r P j = a j := by
  unfold aLand
  split
  · rfl
  · have h := aRow_in hw (r := r) (by omega) (by omega)
    have := zWf.sq hw
    exact aLd_out P _ _ a j (by omega) (by omega) hj
theorem aLand_wf {T : Int} {a : Int → Int} {r : Int} {P : Int → Bool} (hw : zWf T a) (hT : T + 1 ≤ 100000000) : zWf (T + 1) (aLand a r P) := by
  have hw1 := hw.mono (T' := T + 1) (by omega) hT
  unfold aLand
  split
  · exact hw1
  · have h := aRow_in hw (r := r) (by omega) (by omega)
    exact aLd_wf P hT _ _ a (by omega) (by omega) hw1 (fun s' g1 g2 => (hw.2.2.2.2.2.2.2.2.2.2.2.2.2.2.2.2.1 s' (by omega) g2).2.2.2)
theorem aLand_cg {T : Int} {a : Int → Int} {r : Int} {P P' : Int → Bool} (hw : zWf T a) (h : ∀ s : Int, 1 ≤ s → s ≤ a 1 → P s = P' s) : aLand a r P = aLand a r P' := by
  unfold aLand
  split
  · rfl
  · have h9 := aRow_in hw (r := r) (by omega) (by omega)
    exact aLd_cg _ _ _ (fun s' g1 g2 => h s' (by omega) (by omega))
theorem aLands_wf {P : Int → Bool} : ∀ (R : List Int) (T : Int) (a : Int → Int), zWf T a → T + R.length ≤ 100000000 → zWf (T + R.length) (aLands P R a) := by
  intro R
  induction R with
  | nil =>
    intro T a hw _
    show zWf (T + ((0 : Nat) : Int)) a
    rw [show T + ((0 : Nat) : Int) = T by omega]
    exact hw
  | cons r t ih =>
    intro T a hw hT
    have h9 : ((r :: t).length : Int) = (t.length : Int) + 1 := by simp
    rw [h9] at hT ⊢
    have h8 := ih (T + 1) (aLand a r P) (aLand_wf hw (by omega)) (by omega)
    rw [show T + ((t.length : Int) + 1) = T + 1 + t.length by omega]
    exact h8
theorem aLands_out {P : Int → Bool} {j : Int} (hj : j < 18 ∨ 58 ≤ j) : ∀ (R : List Int) (T : Int) (a : Int → Int), zWf T a → T + R.length ≤ 100000000 → aLands P R a j = a j := by
  intro R
  induction R with
  | nil => intro T a _ _; rfl
  | cons r t ih =>
    intro T a hw hT
    have h9 : ((r :: t).length : Int) = (t.length : Int) + 1 := by simp
    rw [h9] at hT
    show aLands P t (aLand a r P) j = a j
    rw [ih (T + 1) _ (aLand_wf hw (by omega)) (by omega), aLand_out hw hj]
theorem aLands_cg {P P' : Int → Bool} : ∀ (R : List Int) (T : Int) (a : Int → Int), zWf T a → T + R.length ≤ 100000000 → (∀ s : Int, 1 ≤ s → s ≤ a 1 → P s = P' s) → aLands P R a = aLands P' R a := by
  intro R
  induction R with
  | nil => intro T a _ _ _; rfl
  | cons r t ih =>
    intro T a hw hT h
    have h9 : ((r :: t).length : Int) = (t.length : Int) + 1 := by simp
    rw [h9] at hT
    show aLands P t (aLand a r P) = aLands P' t (aLand a r P')
    rw [← aLand_cg hw h]
    exact ih (T + 1) _ (aLand_wf hw (by omega)) (by omega) (fun s g1 g2 => h s g1 (by rw [aLand_out hw (by omega)] at g2; exact g2))
theorem aMkH_wf {T : Int} {a : Int → Int} {P : Int → Bool} {R : List Int} (hw : zWf T a) (hT : T + R.length ≤ 100000000) : zWf (T + R.length) (aMkH a P R) := by
  have h1 := aLands_wf (P := P) R T a hw hT
  have h6 := hw.2.2.2.2.2.2.2.2.2.2.2.2.1
  have h6' := hw.2.2.2.2.2.2.2.2.2.2.2.2.2.1
  exact WF_0 h1 (Or.inr (Or.inr ⟨Or.inr (Or.inl rfl), by omega, by omega⟩))
theorem aMkH_out {T : Int} {a : Int → Int} {P : Int → Bool} {R : List Int} (hw : zWf T a) (hT : T + R.length ≤ 100000000) {j : Int} (hj : j < 18 ∨ 58 ≤ j) (h6 : j ≠ 6) : aMkH a P R j = a j := by
  unfold aMkH
  rw [iup_n h6]
  exact aLands_out hj R T a hw hT
/-- the rows of a way -/
def aRows (a : Int → Int) (q tg : Int) (rc : Nat) (bk : Int) : List Int := (aWay a q tg rc bk).map (fun k : Nat => zRa bk (a 0 + 1) k)
theorem zHp_len {F : Nat → Int} {L must rc bal : Nat} : ∀ n k s, zV F L must rc bal k s < 1000000 → k ≤ L → (zHp F L must rc bal n k s).length ≤ L - k := by
  intro n
  induction n with
  | zero => intro k s _ _; exact Nat.zero_le _
  | succ n ih =>
    intro k s hv hk
    unfold zHp
    by_cases q : k = L
    · rw [if_pos q]; exact Nat.zero_le _
    · rw [if_neg q]
      obtain ⟨n1, n2, n3, n5, -, -⟩ := zNx_spec (F := F) (L := L) (must := must) (rc := rc) (bal := bal) (k := k) (run := s) (by omega) hv
      have := ih _ _ n5 n3.1
      have := n3.1
      simp only [List.length_cons]
      omega
theorem aWay_len {a : Int → Int} {q tg : Int} {rc : Nat} {bk : Int} (h0 : 0 ≤ a 0) (h10 : a 0 ≤ 10) : (aWay a q tg rc bk).length ≤ 11 := by
  unfold aWay
  split
  · exact Nat.zero_le _
  · unfold zWl
    split
    · have := zHp_len (F := zWF a q tg bk) (L := (a 0 + 1).toNat) (must := zWm a tg bk) (rc := rc) (bal := (aP a q 1).toNat) ((a 0 + 1).toNat + 1) 0 0 (by assumption) (Nat.zero_le _)
      omega
    · exact Nat.zero_le _
/-- the predicates of the hops: out with the own marker on the target, back without it -/
def aPr (a : Int → Int) (q own : Int) : Int → Bool := fun s => aUse a q own s.toNat
def aHopO (a : Int → Int) (p : Int) : Int → Int := aMkH a (aPr a p (aP a p 2)) (aRows a p (aP a p 2) (aRc a p) 0)
def aHopB (a a1 : Int → Int) (p : Int) : Int → Int :=
  let a2 := iup a1 (58 + 17 * p + 5) 0
  aMkH a2 (aPr a p 0) (aRows a p (aP a p 2) (aRc a p) 1)
/-- a turn without a fault: hops, the marker is picked up, the target moves on -/
def aGood (a : Int → Int) (p : Int) : Int → Int :=
  let a3 := aHopB a (aHopO a p) p
  let a4 := aMove a3 p
  iup a4 7 (a4 7 + 1)
theorem zMks_own {a : Int → Int} {p v : Int} (hp : 0 ≤ p) : ∀ n : Nat, zMks (iup a (58 + 17 * p + 5) v) p n = zMks a p n := by
  intro n
  induction n with
  | zero => rfl
  | succ n ih =>
    unfold zMks
    rw [ih]
    by_cases q : (n : Int) = p
    · rw [if_neg (fun z => z.1 q), if_neg (fun z => z.1 q)]
    · rw [aP_up (by omega)]
theorem aUse_own {T : Int} {a : Int → Int} {p v own : Int} {i : Nat} (hw : zWf T a) (hp : 0 ≤ p) (hi : i ≤ 20) : aUse (iup a (58 + 17 * p + 5) v) p own i = aUse a p own i := by
  unfold aUse aForb
  rw [zMks_own hp, aO_upP hp (by omega) (by omega), show iup a (58 + 17 * p + 5) v 2 = a 2 from iup_n (by omega)]
theorem zFt_own {T : Int} {a : Int → Int} {p v own bk : Int} {k : Nat} (hw : zWf T a) (hp : 0 ≤ p) : zFt (iup a (58 + 17 * p + 5) v) p own bk k = zFt a p own bk k := by
  have hsq := zWf.sq hw
  have n0 : iup a (58 + 17 * p + 5) v 0 = a 0 := iup_n (by omega)
  unfold zFt
  rw [n0]
  by_cases h : k = 0 ∨ a 0 + 1 ≤ (k : Int)
  · rw [if_pos h, if_pos h]
  · rw [if_neg h, if_neg h]
    have hr : 0 ≤ zRa bk (a 0 + 1) k ∧ zRa bk (a 0 + 1) k < a 0 := by unfold zRa; split <;> omega
    have h10 := hw.2.1
    have hri := aRow_in hw hr.1 hr.2
    have hww := hw.2.2.1 _ hr.1 hr.2
    rw [aF_cg (a := a) (fun j _ hj => iup_n (by omega)) _ (by omega), show iup a (58 + 17 * p + 5) v (8 + zRa bk (a 0 + 1) k) = a (8 + zRa bk (a 0 + 1) k) from iup_n (by omega)]
    refine zFo_cg (aUse_own hw hp (by omega)) ?_ (fun h2 => aUse_own hw hp (by omega)) (fun h2 => ?_)
    · show decide (aO (iup a _ v) _ = p) = _
      rw [aO_upP hp (by omega) (by omega)]
    · show decide (aO (iup a _ v) _ = p) = _
      rw [aO_upP hp (by omega) (by omega)]
theorem aCost_own {T : Int} {a : Int → Int} {p v tg bk : Int} {rc : Nat} (hw : zWf T a) (hp : 0 ≤ p) : aCost (iup a (58 + 17 * p + 5) v) p tg rc bk = aCost a p tg rc bk ∧ aWay (iup a (58 + 17 * p + 5) v) p tg rc bk = aWay a p tg rc bk := by
  have hF : zWF (iup a (58 + 17 * p + 5) v) p tg bk = zWF a p tg bk := by funext k; exact zFt_own hw hp
  have n0 : iup a (58 + 17 * p + 5) v 0 = a 0 := iup_n (by omega)
  have n1 : iup a (58 + 17 * p + 5) v 1 = a 1 := iup_n (by omega)
  have hm : zWm (iup a (58 + 17 * p + 5) v) tg bk = zWm a tg bk := by
    unfold zWm
    rw [n0, aR_cg (a := a) (fun j _ hj => iup_n (by omega))]
  unfold aCost aWay
  rw [hF, n0, n1, hm, aP_up (by omega)]
  exact ⟨rfl, rfl⟩
theorem aHopF_own {T : Int} {a : Int → Int} {p v : Int} (hw : zWf T a) (hp : 0 ≤ p) : aHopF (iup a (58 + 17 * p + 5) v) p = aHopF a p := by
  unfold aHopF aRc
  rw [aP_up (by omega), aP_up (by omega), (aCost_own hw hp).1, (aCost_own hw hp).1]
def aTfault (a : Int → Int) (pw sd : Int) : Int := if aFault a (a 4) pw sd = 0 then aHopF a (a 4) else aFault a (a 4) pw sd
def aTurn (a : Int → Int) (pw sd : Int) : Int → Int :=
  let p := a 4
  let am := iup a (58 + 17 * p + 5) (if aFault a p pw sd = 0 then aP a p 2 else 0)
  let f := aTfault a pw sd
  aEnd (aFlt (if f = 0 then aGood am p else am) p f) p f
