/-! the targets stay right -/
theorem zTg_cg {a b : Int → Int} (h1 : b 1 = a 1) (h2 : b 2 = a 2) (h20 : a 1 ≤ 20) (hO : ∀ s : Int, 1 ≤ s → s ≤ 20 → aO b s = aO a s) (hP : ∀ p : Int, 0 ≤ p → p < a 2 → aP b p 2 = aP a p 2 ∧ aP a p 2 ≤ 20) (h : zTg a) : zTg b := by
  intro p g0 g1
  rw [h2] at g1
  obtain ⟨e, e20⟩ := hP p g0 g1
  rw [e, aOpen_cg h1 (fun s' g1 g2 => hO s' g1 (by omega))]
  refine (h p g0 g1).imp_right (fun z => ⟨z.1, fun y => z.2 ?_⟩)
  unfold aForb at *
  rw [hO _ z.1 e20] at y
  exact y
theorem zTg_ea {T : Int} {a b : Int → Int} (hw : zWf T a) (e : zEa a b) (h : zTg a) : zTg b := by
  have hsq := zWf.sq hw
  have w2' := hw.2.2.2.2.2.1
  refine zTg_cg (e 1 (by omega) (by omega)) (e 2 (by omega) (by omega)) hsq.2 (fun s g1 g2 => zEa_O e g1 g2) (fun p g0 g1 => ⟨zEa_P e g0 (by omega) (by omega) (by omega), ?_⟩) h
  have hm2 := hw.2.2.2.2.2.2.2.2.2.2.2.2.2.2.2.2.2.1 p g0 g1
  unfold zWfP at hm2
  omega
/-- a number that is neither an owner nor a target -/
theorem zTg_up {T : Int} {a : Int → Int} {j v : Int} (hw : zWf T a) (h : zTg a) (hj : j = 3 ∨ j = 4 ∨ j = 5 ∨ j = 6 ∨ j = 7 ∨ ∃ q w : Int, 0 ≤ q ∧ 0 ≤ w ∧ w < 17 ∧ w ≠ 2 ∧ j = 58 + 17 * q + w) : zTg (iup a j v) := by
  have hsq := zWf.sq hw
  have hn : ∀ i : Int, i < 3 ∨ (8 ≤ i ∧ i < 58) → iup a j v i = a i := fun i hi => iup_n (by rcases hj with h | h | h | h | h | ⟨q, w, g1, g2, g3, g4, rfl⟩ <;> omega)
  refine zTg_cg (hn 1 (by omega)) (hn 2 (by omega)) hsq.2 (fun s g1 g2 => by unfold aO; rw [hn _ (by omega)]) (fun p g0 g1 => ⟨?_, ?_⟩) h
  · unfold aP
    refine iup_n ?_
    rcases hj with h | h | h | h | h | ⟨q, w, g1, g2, g3, g4, rfl⟩ <;> omega
  · have hm2 := hw.2.2.2.2.2.2.2.2.2.2.2.2.2.2.2.2.2.1 p g0 g1
    unfold zWfP at hm2
    omega
theorem aMendN_2 {a : Int → Int} {q : Int} (h0 : 0 ≤ q) : ∀ n : Nat, q < n → aP (aMendN a n) q 2 = aMendT a q := by
  intro n
  induction n with
  | zero => intro h; omega
  | succ n ih =>
    intro h
    unfold aMendN
    by_cases e : q = n
    · subst e
      unfold aP; exact iup_s
    · have h9 := ih (by omega)
      unfold aP at *
      rw [iup_n (by omega)]
      exact h9
theorem zTg_mend {T : Int} {b : Int → Int} (hw : zWf T b) : zTg (aMend b) := by
  have hsq := zWf.sq hw
  have w2 := hw.2.2.2.2.1
  intro p g0 g1
  rw [aMend_1 (by omega)] at g1
  have e2 : aP (aMend b) p 2 = aMendT b p := aMendN_2 g0 _ (by omega)
  have hm2 := hw.2.2.2.2.2.2.2.2.2.2.2.2.2.2.2.2.2.1 p g0 g1
  unfold zWfP at hm2
  have eo : ∀ s : Int, 1 ≤ s → aOpen (aMend b) p s = aOpen b p s := fun s hs => aOpen_cg (aMend_1 (by omega)) (fun s' g1 g2 => aMend_O (by omega))
  have ef : ∀ s : Int, s ≤ 20 → aForb (aMend b) p s = aForb b p s := fun s hs => by unfold aForb; rw [aMend_O hs]
  rw [e2, eo 1 (by omega)]
  unfold aMendT
  by_cases z : aP b p 2 = 0 ∨ aForb b p (aP b p 2)
  · rw [if_pos z]
    by_cases y : aOpen b p (aP b p 2 + 1) = 0
    · rw [if_pos y]
      rcases aOpen_in (a := b) (p := p) (s := 1) (by omega) with ⟨h1, _⟩ | ⟨h1, h2, h3, _⟩
      · exact Or.inl ⟨h1, h1⟩
      · exact Or.inr ⟨h1, by rw [ef _ (by omega)]; exact h3⟩
    · rw [if_neg y]
      rcases aOpen_in (a := b) (p := p) (s := aP b p 2 + 1) (by omega) with ⟨h1, _⟩ | ⟨h1, h2, h3, _⟩
      · exact absurd h1 y
      · exact Or.inr ⟨by omega, by rw [ef _ (by omega)]; exact h3⟩
  · rw [if_neg z]
    exact Or.inr ⟨by have : aP b p 2 ≠ 0 := fun y => z (Or.inl y); omega, fun y => z (Or.inr (by rw [← ef _ (by omega)]; exact y))⟩
theorem zTg_move {T : Int} {a : Int → Int} {p : Int} (hw : zWf T a) (h0 : 0 ≤ p) (h1 : p < a 2) (h : zTg a) : zTg (aMove a p) := by
  have hsq := zWf.sq hw
  have hm2 := hw.2.2.2.2.2.2.2.2.2.2.2.2.2.2.2.2.2.1 p h0 h1
  unfold zWfP at hm2
  intro q g0 g1
  rw [aMove_n h0 (by omega)] at g1
  have eo : ∀ x s : Int, 1 ≤ s → aOpen (aMove a p) x s = aOpen a x s := fun x s hs => aOpen_cg (aMove_n h0 (by omega)) (fun s' g1 g2 => by unfold aO; rw [aMove_n h0 (by omega)])
  have ef : ∀ x s : Int, s ≤ 20 → aForb (aMove a p) x s = aForb a x s := fun x s hs => by unfold aForb aO; rw [aMove_n h0 (by omega)]
  have hmq := hw.2.2.2.2.2.2.2.2.2.2.2.2.2.2.2.2.2.1 q g0 g1
  unfold zWfP at hmq
  by_cases e : q = p
  · subst e
    have e2 : aP (aMove a q) q 2 = if aOpen a q (aP a q 2 + 1) = 0 then aOpen a q 1 else aOpen a q (aP a q 2 + 1) := by
      unfold aMove aP
      split
      · exact iup_s
      · exact iup_s
    rw [e2, eo q 1 (by omega)]
    by_cases y : aOpen a q (aP a q 2 + 1) = 0
    · rw [if_pos y]
      rcases aOpen_in (a := a) (p := q) (s := 1) (by omega) with ⟨h1, _⟩ | ⟨h1, h2, h3, _⟩
      · exact Or.inl ⟨h1, h1⟩
      · exact Or.inr ⟨h1, by rw [ef _ _ (by omega)]; exact h3⟩
    · rw [if_neg y]
      rcases aOpen_in (a := a) (p := q) (s := aP a q 2 + 1) (by omega) with ⟨h1, _⟩ | ⟨h1, h2, h3, _⟩
      · exact absurd h1 y
      · exact Or.inr ⟨by omega, by rw [ef _ _ (by omega)]; exact h3⟩
  · have e2 : aP (aMove a p) q 2 = aP a q 2 := by
      unfold aMove aP
      split
      · show iup (iup (iup a _ _) _ _) _ _ _ = _
        rw [iup_n (by omega), iup_n (by omega), iup_n (by omega)]
      · rw [iup_n (by omega)]
    rw [e2, eo q 1 (by omega)]
    exact (h q g0 g1).imp_right (fun z => ⟨z.1, by rw [ef _ _ (by omega)]; exact z.2⟩)
theorem zTg_good {T : Int} {a : Int → Int} {p : Int} (hw : zWf T a) (hT : T + 24 ≤ 100000000) (h0 : 0 ≤ p) (h1 : p < a 2) (h : zTg a) : zTg (aGood a p) := by
  have hsq := zWf.sq hw
  obtain ⟨f1, f2, f3, l0, l1⟩ := aHopB_wf hw hT h0
  have en : ∀ j : Int, j < 6 → aHopB a (aHopO a p) p j = a j := fun j hj => by
    show aMkH (iup (aHopO a p) (58 + 17 * p + 5) 0) _ _ j = a j
    rw [aMkH_out f2 (by omega) (by omega) (by omega), iup_n (by omega)]
    exact aMkH_out hw (by omega) (by omega) (by omega)
  have eO : ∀ s : Int, 1 ≤ s → s ≤ 20 → aO (aHopB a (aHopO a p) p) s = aO a s := fun s hs h20 => by
    show aO (aMkH (iup (aHopO a p) (58 + 17 * p + 5) 0) _ _) s = aO a s
    rw [aMkH_O hs]
    have e9 : aO (iup (aHopO a p) (58 + 17 * p + 5) 0) s = aO (aHopO a p) s := by unfold aO; rw [iup_n (by omega)]
    rw [e9]
    exact aMkH_O hs
  have eP : ∀ q : Int, 0 ≤ q → aP (aHopB a (aHopO a p) p) q 2 = aP a q 2 := fun q hq => by
    show aP (aMkH (iup (aHopO a p) (58 + 17 * p + 5) 0) _ _) q 2 = aP a q 2
    rw [aMkH_P f2 (by omega) hq (by omega)]
    have e9 : aP (iup (aHopO a p) (58 + 17 * p + 5) 0) q 2 = aP (aHopO a p) q 2 := by unfold aP; rw [iup_n (by omega)]
    rw [e9]
    exact aMkH_P hw (by omega) hq (by omega)
  have g3 : zTg (aHopB a (aHopO a p) p) := zTg_cg (en 1 (by omega)) (en 2 (by omega)) hsq.2 eO (fun q g0 g1 => ⟨eP q g0, by
    have hm2 := hw.2.2.2.2.2.2.2.2.2.2.2.2.2.2.2.2.2.1 q g0 g1
    unfold zWfP at hm2
    omega⟩) h
  have g4 := zTg_move f3 h0 (by rw [en 2 (by omega)]; exact h1) g3
  have f4 := aMove_wf f3 (by omega) h0 (by rw [en 2 (by omega)]; exact h1)
  exact zTg_up f4 g4 (by omega)
theorem zTg_end {T : Int} {a : Int → Int} {p f : Int} (hw : zWf T a) (hT : T + 1 ≤ 100000000) (h0 : 0 ≤ p) (h : zTg a) : zTg (aEnd a p f) := by
  have hsq := zWf.sq hw
  have hn : ∀ j : Int, j < 58 → j ≠ 4 → j ≠ 5 → aEnd a p f j = a j := fun j g1 g2 g3 => aEnd_n h0 g1 g2 g3
  refine zTg_cg (hn 1 (by omega) (by omega) (by omega)) (hn 2 (by omega) (by omega) (by omega)) hsq.2 (fun s g1 g2 => by unfold aO; rw [hn _ (by omega) (by omega) (by omega)]) (fun q g0 g1 => ⟨?_, ?_⟩) h
  · unfold aEnd aP
    show iup (iup (iup (iup a _ _) _ _) _ _) _ _ _ = _
    rw [iup_n (by omega), iup_n (by omega), iup_n (by omega), iup_n (by omega)]
  · have hm2 := hw.2.2.2.2.2.2.2.2.2.2.2.2.2.2.2.2.2.1 q g0 g1
    unfold zWfP at hm2
    omega
theorem zTg_turn {T : Int} {a : Int → Int} {pw sd : Int} (hw : zWf T a) (hT : T + 26 ≤ 100000000) (h : zTg a) : zTg (aTurn a pw sd) := by
  have h4 := hw.2.2.2.2.2.2.2.2.1
  have h4' := hw.2.2.2.2.2.2.2.2.2.1
  have f1 : zWf T (aTm a pw sd) := aMk_wf hw
  have g1 : zTg (aTm a pw sd) := zTg_up hw h (Or.inr (Or.inr (Or.inr (Or.inr (Or.inr ⟨a 4, 5, h4, by omega, by omega, by omega, rfl⟩)))))
  have e2 : aTm a pw sd 2 = a 2 := iup_n (by omega)
  obtain ⟨f2, t2, t4⟩ := aTg_wf (pw := pw) (sd := sd) hw hT
  have g2 : zTg (aTg a pw sd) := by
    unfold aTg
    split
    · exact zTg_good f1 (by omega) h4 (by rw [e2]; exact h4') g1
    · exact g1
  have f3 := aFlt_wf (f := aTfault a pw sd) f2 (by omega) h4 (by rw [t2]; exact h4')
  have g3 : zTg (aFlt (aTg a pw sd) (a 4) (aTfault a pw sd)) := by
    unfold aFlt
    split
    · exact g2
    · exact zTg_up f2 g2 (Or.inr (Or.inr (Or.inr (Or.inr (Or.inr ⟨a 4, 7, h4, by omega, by omega, by omega, rfl⟩)))))
  rw [aTurn_eq]
  exact zTg_end f3 (by omega) h4 g3
/-- a court that holds what agrees -/
theorem CR_ea {T : Int} {W : zWd} {c : Nat} {a b : Int → Int} (h : zCR W c a) (hw : zWf T a) (e : zEa a b) : zCR W c b := by
  obtain ⟨r0, r1, r2, r3, r4, r5, r6, r7, rF, rS, rP, rB⟩ := h
  have hsq := zWf.sq hw
  have w2' := hw.2.2.2.2.2.1
  have w0' := hw.2.1
  have ej : ∀ j : Int, 0 ≤ j → j < 8 → b j = a j := fun j g1 g2 => e j g1 (by omega)
  refine ⟨by rw [ej 0 (by omega) (by omega)]; exact r0, by rw [ej 1 (by omega) (by omega)]; exact r1, by rw [ej 2 (by omega) (by omega)]; exact r2, by rw [ej 3 (by omega) (by omega)]; exact r3, by rw [ej 4 (by omega) (by omega)]; exact r4, by rw [ej 5 (by omega) (by omega)]; exact r5, by rw [ej 6 (by omega) (by omega)]; exact r6, by rw [ej 7 (by omega) (by omega)]; exact r7, fun r g1 g2 => ?_, fun s g1 g2 g3 => ?_, fun p g1 g2 => ?_, rB⟩
  · rw [ej 0 (by omega) (by omega)] at g2
    rw [zEa_F e r g1]; exact rF r g1 g2
  · rw [ej 1 (by omega) (by omega)] at g3
    rw [zEa_R e s, zEa_O e g1 g2, zEa_L e g1 g2]
    exact rS s g1 g2 g3
  · rw [ej 2 (by omega) (by omega)] at g2
    obtain ⟨p0, p1, p2, p3, p4, p5, p6, p7, p8, p9, p10⟩ := rP p g1 g2
    have eP : ∀ w : Int, 0 ≤ w → w < 17 → aP b p w = aP a p w := fun w h0 h1 => zEa_P e g1 (by omega) h0 h1
    unfold zCRP zNam at *
    refine ⟨by rw [eP 0 (by omega) (by omega)]; exact p0, by rw [eP 1 (by omega) (by omega)]; exact p1, by rw [eP 2 (by omega) (by omega)]; exact p2, by rw [eP 3 (by omega) (by omega)]; exact p3, by rw [eP 4 (by omega) (by omega)]; exact p4, by rw [eP 5 (by omega) (by omega)]; exact p5, by rw [eP 6 (by omega) (by omega)]; exact p6, by rw [eP 7 (by omega) (by omega)]; exact p7, by rw [eP 8 (by omega) (by omega)]; exact p8, ⟨p9.1, p9.2.1, fun k h0 h1 => ?_, fun k h0 h1 => ?_⟩, fun k h0 h1 => ?_⟩
    · rw [eP (9 + k) (by omega) (by omega)]; exact p9.2.2.1 k h0 h1
    · rw [eP (9 + k) (by omega) (by omega)]; exact p9.2.2.2 k h0 h1
    · rw [eP (9 + k) (by omega) (by omega)]; exact p10 k h0 h1
/-! what holds between two calls: of the class, of the reference, and of the numbers that both hold -/
def zIc (W : zWd) (a : Int → Int) (n : Int) (K : Nat → (Int → Int)) (B : Int → Prop) (S : Int → (Int → Int)) (L Z : List Int) (e : Int) : Prop :=
  zCR W 0 a ∧ zGm W ∧ zByt W ∧ zHi W n K ∧ zSv W B S ∧ zTL W L ∧ zWt W Z ∧ W 112 6 = e
def zIm (W : zWd) (a : Int → Int) (n : Int) (K : Nat → (Int → Int)) (B : Int → Prop) (S : Int → (Int → Int)) (L Z : List Int) (e : Int) : Prop :=
  W 117 = a ∧ zKp W n K ∧ zSm W B S ∧ zMB W L ∧ zMw W Z ∧ W 116 16 = e
def zIp (T : Int) (a : Int → Int) (n : Int) (K : Nat → (Int → Int)) (B : Int → Prop) (S : Int → (Int → Int)) (Z : List Int) (e : Int) : Prop :=
  (zWf T a ∧ zTg a) ∧ (∀ j : Nat, (j : Int) < n → zWf T (K j) ∧ zTg (K j)) ∧ (∀ i : Int, 0 ≤ i → i < 2 → B i → zWf T (S i) ∧ zTg (S i)) ∧ Z.length ≤ 300 ∧ zR e
def zIv (W : zWd) (T : Int) : Prop := ∃ (a : Int → Int) (n : Int) (K : Nat → (Int → Int)) (B : Int → Prop) (S : Int → (Int → Int)) (L Z : List Int) (e : Int), zIc W a n K B S L Z e ∧ zIm W a n K B S L Z e ∧ zIp T a n K B S Z e
section ZI
variable {W W' : zWd} {T : Int} {a : Int → Int} {n : Int} {K : Nat → (Int → Int)} {B : Int → Prop} {S : Int → (Int → Int)} {L Z : List Int} {e : Int}
theorem zIm.up (h : zIm W a n K B S L Z e) (o : ∀ k : Nat, 116 ≤ k → k < 128 → W' k = W k) : zIm W' a n K B S L Z e := by
  obtain ⟨h1, h2, h3, h4, h5, h6⟩ := h
  unfold zIm zKp zSm zMB zMw at *
  rw [o 116 (by omega) (by omega), o 117 (by omega) (by omega), o 120 (by omega) (by omega), o 121 (by omega) (by omega), o 122 (by omega) (by omega), o 123 (by omega) (by omega), o 127 (by omega) (by omega)]
  exact ⟨h1, h2, h3, h4, h5, h6⟩
theorem zIm.out {z : Int} (h : zIm W a n K B S L Z e) : zIm (zup W 128 0 z) a n K B S L Z e := h.up (fun k g1 g2 => zup_other k (by omega))
theorem zHi.k (h : zHi W n K) (o : ∀ k : Nat, 16 ≤ k → k < 116 → W' k = W k) : zHi W' n K := h.off (fun k g1 g2 => o k g1 (by omega)) (o 108 (by omega) (by omega))
theorem zSv.k (h : zSv W B S) (o : ∀ k : Nat, 80 ≤ k → k < 116 → (k < 98 ∨ 108 ≤ k) → W' k = W k) : zSv W' B S := by
  intro i h0 h1
  rw [o 111 (by omega) (by omega) (by omega)]
  exact (h i h0 h1).imp_right (fun z => ⟨z.1, z.2.1, CR_off z.2.2 (fun k g1 g2 => o k (by omega) (by omega) (by omega))⟩)
theorem zTL.k (h : zTL W L) (e1 : W' 112 1 = W 112 1) (e2 : W' 113 = W 113) : zTL W' L := by unfold zTL at *; rw [e1, e2]; exact h
theorem zWt.k (h : zWt W Z) (e1 : W' 114 = W 114) (e2 : W' 115 = W 115) : zWt W' Z := by unfold zWt at *; rw [e1, e2]; exact h
theorem zIc.up (h : zIc W a n K B S L Z e) (o : ∀ k : Nat, k < 116 → W' k = W k) : zIc W' a n K B S L Z e := by
  obtain ⟨h1, h2, h3, h4, h5, h6, h7, h8⟩ := h
  refine ⟨CR_off h1 (fun k g1 g2 => o k (by omega)), ⟨by rw [o 98 (by omega)]; exact h2.1, by rw [o 103 (by omega)]; exact h2.2⟩, fun i g1 g2 => by rw [o (8 + 6) (by omega)]; exact h3 i g1 g2, h4.k (fun k _ g2 => o k g2), h5.k (fun k _ g2 _ => o k g2), h6.k (by rw [o 112 (by omega)]) (o 113 (by omega)), h7.k (o 114 (by omega)) (o 115 (by omega)), by rw [o 112 (by omega)]; exact h8⟩
theorem zIc.out {z : Int} (h : zIc W a n K B S L Z e) : zIc (zup W 128 0 z) a n K B S L Z e := h.up (fun k g => zup_other k (by omega))
/-- the ways and the trial court may change -/
theorem zIc.p (h : zIc W a n K B S L Z e) (o : zOffp 8 W W') (g : zGm W') (b : zByt W') : zIc W' a n K B S L Z e := by
  obtain ⟨h1, h2, h3, h4, h5, h6, h7, h8⟩ := h
  have o9 : ∀ k : Nat, (k < 8 ∨ 16 ≤ k) → (k < 98 ∨ 108 ≤ k) → W' k = W k := fun k g1 g2 => o k (by omega) g2
  refine ⟨CR_off h1 (fun k g1 g2 => o9 k (by omega) (by omega)), g, b, ?_, h5.k (fun k g1 g2 g3 => o9 k (by omega) g3), h6.k (by rw [o9 112 (by omega) (by omega)]) (o9 113 (by omega) (by omega)), h7.k (o9 114 (by omega) (by omega)) (o9 115 (by omega) (by omega)), by rw [o9 112 (by omega) (by omega)]; exact h8⟩
  exact h4.off (fun k g1 g2 => o9 k (by omega) (by omega)) (o9 108 (by omega) (by omega))
theorem zIc.g (h : zIc W a n K B S L Z e) (o : zOffg W W') (g : zGm W') : zIc W' a n K B S L Z e := h.p o.p g (fun i g1 g2 => by rw [o (8 + 6) (by omega)]; exact h.2.2.1 i g1 g2)
/-- the court and the history change -/
theorem zIc.C {a' : Int → Int} {n' : Int} {K' : Nat → (Int → Int)} (h : zIc W a n K B S L Z e) (o : zOffC W W') (g : zGm W') (c : zCR W' 0 a') (hi : zHi W' n' K') : zIc W' a' n' K' B S L Z e := by
  obtain ⟨h1, h2, h3, h4, h5, h6, h7, h8⟩ := h
  exact ⟨c, g, fun i g1 g2 => by rw [o (8 + 6) (by omega) (by omega) (by omega)]; exact h3 i g1 g2, hi, h5.off o, h6.k (by rw [o 112 (by omega) (by omega) (by omega)]) (o 113 (by omega) (by omega) (by omega)), h7.k (o 114 (by omega) (by omega) (by omega)) (o 115 (by omega) (by omega) (by omega)), by rw [o 112 (by omega) (by omega) (by omega)]; exact h8⟩
theorem zOffC.m (o : zOffC W W') : ∀ k : Nat, 116 ≤ k → k < 128 → W' k = W k := fun k g1 g2 => o k (by omega) (by omega) (by omega)
theorem zOffp.m (o : zOffp 8 W W') : ∀ k : Nat, 116 ≤ k → k < 128 → W' k = W k := fun k g1 g2 => o k (by omega) (by omega)
theorem zOffg.m (o : zOffg W W') : ∀ k : Nat, 116 ≤ k → k < 128 → W' k = W k := fun k g1 g2 => o k (by omega)
theorem zOfQ.c (o : zOfQ W W') : ∀ k : Nat, k < 116 → W' k = W k := fun k g => o.1 k (by omega) (by omega) (by omega) (by omega)
theorem zOfM.c (o : zOfM W W') : ∀ k : Nat, k < 116 → W' k = W k := fun k g => o.1 k (by omega) (by omega) (by omega) (by omega) (by omega) (by omega) (by omega) (by omega)
theorem zOfQ.o (o : zOfQ W W') : W' 128 = W 128 := o.1 128 (by omega) (by omega) (by omega) (by omega)
theorem zOfM.o (o : zOfM W W') : W' 128 = W 128 := o.1 128 (by omega) (by omega) (by omega) (by omega) (by omega) (by omega) (by omega) (by omega)
theorem zIm.Q (h : zIm W a n K B S L Z e) (o : zOfQ W W') : zIm W' a n K B S L Z e := by
  obtain ⟨h1, h2, h3, h4, h5, h6⟩ := h
  have o1 : ∀ k : Nat, 117 ≤ k → k < 124 ∨ k = 127 → W' k = W k := fun k g1 g2 => o.1 k (by omega) (by omega) (by omega) (by omega)
  unfold zIm zKp zSm zMB zMw at *
  rw [o1 117 (by omega) (by omega), o1 120 (by omega) (by omega), o1 121 (by omega) (by omega), o1 122 (by omega) (by omega), o1 123 (by omega) (by omega), o1 127 (by omega) (by omega), o.2 6 (by omega) (by omega) (by omega), o.2 9 (by omega) (by omega) (by omega), o.2 26 (by omega) (by omega) (by omega), o.2 16 (by omega) (by omega) (by omega)]
  exact ⟨h1, h2, h3, h4, h5, h6⟩
/-- the reference's numbers and what it keeps change -/
theorem zIm.M {a' : Int → Int} {n' : Int} {K' : Nat → (Int → Int)} (h : zIm W a n K B S L Z e) (o : zOfM W W') (h1' : W' 117 = a') (h2' : zKp W' n' K') : zIm W' a' n' K' B S L Z e := by
  obtain ⟨h1, h2, h3, h4, h5, h6⟩ := h
  have o1 : ∀ k : Nat, 121 ≤ k → k < 124 ∨ k = 127 → W' k = W k := fun k g1 g2 => o.1 k (by omega) (by omega) (by omega) (by omega) (by omega) (by omega) (by omega) (by omega)
  have o2 : ∀ j : Int, j = 9 ∨ j = 26 ∨ j = 16 → W' 116 j = W 116 j := fun j g => o.2 j (by omega) (by omega) (by omega) (by omega) (by omega) (by omega) (by omega)
  unfold zIm zSm zMB zMw at *
  rw [o1 121 (by omega) (by omega), o1 122 (by omega) (by omega), o1 123 (by omega) (by omega), o1 127 (by omega) (by omega), o2 9 (by omega), o2 26 (by omega), o2 16 (by omega)]
  exact ⟨h1', h2', h3, h4, h5, h6⟩
theorem zIp.mono {T' : Int} (h : zIp T a n K B S Z e) (hT : T ≤ T') (hT2 : T' ≤ 100000000) : zIp T' a n K B S Z e :=
  ⟨⟨h.1.1.mono hT hT2, h.1.2⟩, fun j hj => ⟨(h.2.1 j hj).1.mono hT hT2, (h.2.1 j hj).2⟩, fun i g1 g2 g3 => ⟨(h.2.2.1 i g1 g2 g3).1.mono hT hT2, (h.2.2.1 i g1 g2 g3).2⟩, h.2.2.2.1, h.2.2.2.2⟩
/-- a change: the old numbers are kept -/
theorem zIp.push {a' : Int → Int} {T' : Int} (h : zIp T a n K B S Z e) (hT : T ≤ T') (hT2 : T' ≤ 100000000) (hn : n ≤ 8) (f : zWf T' a') (g : zTg a') : zIp T' a' (if n + 1 < 8 then n + 1 else 8) (zPush a K) B S Z e := by
  have h9 := h.mono hT hT2
  refine ⟨⟨f, g⟩, fun j hj => ?_, h9.2.2.1, h9.2.2.2.1, h9.2.2.2.2⟩
  unfold zPush
  by_cases z : j = 0
  · rw [if_pos z]; exact h9.1
  · rw [if_neg z]; exact h9.2.1 (j - 1) (by split at hj <;> omega)
end ZI
