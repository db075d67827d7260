/-! the numbers of the beginning -/
def a09 : Int → Int := fun i => if i = 2 then 2 else if i = 84 then 98 else if i = 77 then 1 else if i = 76 then 3 else if i = 75 then 2 else if i = 67 then 97 else if i = 60 then 1 else if i = 59 then 3 else if i = 58 then 2 else if i = 1 then 2 else if i = 9 then 1 else if i = 8 then 1 else if i = 0 then 2 else 0
theorem zBem_117 {U : zWd} (h : ∀ i : Int, U 117 i = 0) : zBem U 117 = a09 := by
  funext i
  simp [zBem, zup, a09, h]
theorem zBem_o {U : zWd} {k : Nat} (h : k ≠ 117) : zBem U k = U k := by
  unfold zBem
  simp only [zup_other k h]
theorem a09_wf : zWf 0 a09 := by
  refine ⟨by decide, by decide, fun r h0 h1 => ?_, by decide, by decide, by decide, by decide, by decide, by decide, by decide, by decide, by decide, by decide, by decide, by decide, by decide, fun s h0 h1 => ?_, fun q h0 h1 => ?_, by decide⟩
  · have h1 : r < 2 := h1
    rcases (show r = 0 ∨ r = 1 by omega) with rfl | rfl <;> decide
  · have h1 : s ≤ 2 := h1
    rcases (show s = 1 ∨ s = 2 by omega) with rfl | rfl <;> decide
  · have h1 : q < 2 := h1
    rcases (show q = 0 ∨ q = 1 by omega) with rfl | rfl <;> (unfold zWfP; decide)
theorem a09_tg : zTg a09 := by
  intro q h0 h1
  have h1 : q < 2 := h1
  rcases (show q = 0 ∨ q = 1 by omega) with rfl | rfl
  · exact Or.inr ⟨by decide, by unfold aForb; decide⟩
  · exact Or.inr ⟨by decide, by unfold aForb; decide⟩
theorem zBeg_o {V : zWd} {k : Nat} (h : k = 3 ∨ k = 4 ∨ 8 ≤ k) : zBeg V k = V k := by
  unfold zBeg
  simp only [zup_other k (show k ≠ 0 by omega), zup_other k (show k ≠ 0 + 1 by omega), zup_other k (show k ≠ 0 + 2 by omega), zup_other k (show k ≠ 0 + 5 by omega), zup_other k (show k ≠ 0 + 6 by omega), zup_other k (show k ≠ 0 + 7 by omega)]
theorem zBeg_CR {V : zWd} (h : zC0 V 0) : zCR (zBeg V) 0 a09 := by
  obtain ⟨h1, h2, h3, h4, h5, h6, h7, h8, h9⟩ := h
  have j0 : ∀ j : Int, 3 ≤ j → j < 8 → zBeg V 0 j = 0 := fun j g0 g1 => by
    have e := h1 j (by omega) g1
    simp [zBeg, zup, show ¬ j = 0 by omega, show ¬ j = 1 by omega, show ¬ j = 2 by omega, e]
  have h3 : V 1 0 = 1 := h3
  have h5 : ∀ i : Int, i ≠ 0 → V 1 i = 0 := h5
  have h6 : V 2 = fun _ => 0 := h6
  have h7 : V 5 = fun _ => 0 := h7
  have h8 : V 6 = fun _ => 0 := h8
  have h9 : V 7 = fun _ => 0 := h9
  refine ⟨by simp [zBeg, zup, a09], by simp [zBeg, zup, a09], by simp [zBeg, zup, a09], (j0 3 (by omega) (by omega)).trans rfl, (j0 4 (by omega) (by omega)).trans rfl, (j0 5 (by omega) (by omega)).trans rfl, (j0 6 (by omega) (by omega)).trans rfl, (j0 7 (by omega) (by omega)).trans rfl, fun r g0 g1 => ?_, fun s g0 _ g1 => ?_, fun q g0 g1 => ?_, fun i g0 g1 => ?_⟩
  · have g1 : (r : Int) ≤ 2 := g1
    rcases (show r = 0 ∨ r = 1 ∨ r = 2 by omega) with rfl | rfl | rfl
    · show zBeg V 1 0 = aF a09 0
      rw [show aF a09 0 = 1 by decide]; simp [zBeg, zup, h3]
    · show zBeg V 1 1 = aF a09 1
      rw [show aF a09 1 = 2 by decide]; simp [zBeg, zup]
    · show zBeg V 1 2 = aF a09 2
      rw [show aF a09 2 = 3 by decide]; simp [zBeg, zup]
  · have g1 : s ≤ 2 := g1
    have o3 : zBeg V 3 s = -1 := by rw [zBeg_o (Or.inl rfl)]; exact (h4 s (by omega) (by omega)).1
    have o4 : zBeg V 4 s = 0 := by rw [zBeg_o (Or.inr (Or.inl rfl))]; exact (h4 s (by omega) (by omega)).2
    rcases (show s = 1 ∨ s = 2 by omega) with rfl | rfl
    · refine ⟨?_, o3.trans (by decide), o4.trans (by decide)⟩
      show zBeg V 2 1 = _
      rw [show aR a09 1 = 0 by decide]; simp [zBeg, zup]
    · refine ⟨?_, o3.trans (by decide), o4.trans (by decide)⟩
      show zBeg V 2 2 = _
      rw [show aR a09 2 = 1 by decide]; simp [zBeg, zup]
  · have g1 : q < 2 := g1
    rcases (show q = 0 ∨ q = 1 by omega) with rfl | rfl
    · have e7 : zBeg V (0 + 7) 0 = 1 := by simp [zBeg, zup]
      unfold zCRP
      rw [e7]
      refine ⟨by simp [zBeg, zup, aP, a09], by simp [zBeg, zup, aP, a09], by simp [zBeg, zup, aP, a09], by simp [zBeg, zup, aP, a09, h7], by simp [zBeg, zup, aP, a09, h7], by simp [zBeg, zup, aP, a09], by simp [zBeg, zup, aP, a09, h7], by simp [zBeg, zup, aP, a09, h7], by simp [zBeg, zup, aP, a09, h7], ⟨by decide, by decide, fun k k0 k1 => ?_, fun k k0 k1 => ?_⟩, fun k k0 k1 => ?_⟩
      · rw [show k = 0 by omega]; decide
      · rcases (show k = 1 ∨ k = 2 ∨ k = 3 ∨ k = 4 ∨ k = 5 ∨ k = 6 ∨ k = 7 by omega) with rfl | rfl | rfl | rfl | rfl | rfl | rfl <;> decide
      · rw [show k = 0 by omega]; simp [zBeg, zup, aP, a09]
    · have e7 : zBeg V (0 + 7) 1 = 1 := by simp [zBeg, zup]
      unfold zCRP
      rw [e7]
      refine ⟨by simp [zBeg, zup, aP, a09], by simp [zBeg, zup, aP, a09], by simp [zBeg, zup, aP, a09], by simp [zBeg, zup, aP, a09, h7], by simp [zBeg, zup, aP, a09, h7], by simp [zBeg, zup, aP, a09], by simp [zBeg, zup, aP, a09, h7], by simp [zBeg, zup, aP, a09, h7], by simp [zBeg, zup, aP, a09, h7], ⟨by decide, by decide, fun k k0 k1 => ?_, fun k k0 k1 => ?_⟩, fun k k0 k1 => ?_⟩
      · rw [show k = 0 by omega]; decide
      · rcases (show k = 1 ∨ k = 2 ∨ k = 3 ∨ k = 4 ∨ k = 5 ∨ k = 6 ∨ k = 7 by omega) with rfl | rfl | rfl | rfl | rfl | rfl | rfl <;> decide
      · rw [show k = 0 by omega]; simp [zBeg, zup, aP, a09]
  · have e6 : zBeg V (0 + 6) i = if i = 8 then 98 else if i = 0 then 97 else 0 := by simp [zBeg, zup, h8]
    rw [e6]
    split
    · omega
    · split <;> omega
/-- the refs of the main court stay set -/
theorem zBeg_r {V : zWd} (h : zC0 V 0) : ∀ j : Int, 8 ≤ j → j < 15 → zBeg V 0 j = 1 := fun j g0 g1 => by
  have e := h.2.1 j g0 g1
  simp [zBeg, zup, show ¬ j = 0 by omega, show ¬ j = 1 by omega, show ¬ j = 2 by omega, e]
