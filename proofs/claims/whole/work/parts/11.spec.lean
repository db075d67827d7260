/-! THE MEANING: what a court is, as the row of 160 numbers that the reference keeps (a : Int → Int) -/
theorem rr_ishl1 {M : zM} {d t : Nat} {W₀ : zWd} {pc : Nat} {ls st : List Value} {K : zK} {X : zX} {b : Int} (hd : decode M.2.1 pc = .ok (.ishl, 1)) (h0 : 0 ≤ b) (h1 : b < 32) (k : RR M d t W₀ (pc + 1) ls (zI ((2 ^ b.toNat : Nat) : Int) :: st) K X) : RR M d t W₀ pc ls (zI b :: zI 1 :: st) K X := by
  refine rr_ishl hd h0 h1 ?_
  rw [Int.one_mul, show (2 : Int) ^ b.toNat = ((2 ^ b.toNat : Nat) : Int) from (Int.natCast_pow 2 _).symm]
  exact k
def iup (a : Int → Int) (i v : Int) : Int → Int := fun j => if j = i then v else a j
theorem iup_s {a : Int → Int} {i v : Int} : iup a i v i = v := by simp [iup]
theorem iup_n {a : Int → Int} {i j v : Int} (h : j ≠ i) : iup a i v j = a j := by simp [iup, h]
def zst (W : zWd) (k : Nat) (f : Int → Int) : zWd := fun k' => if k' = k then f else W k'
theorem zst_s {W : zWd} {k : Nat} {f : Int → Int} : zst W k f k = f := by simp [zst]
theorem zst_n {W : zWd} {k k' : Nat} {f : Int → Int} (h : k' ≠ k) : zst W k f k' = W k' := by simp [zst, h]
theorem zst_st {W : zWd} {k : Nat} {f g : Int → Int} : zst (zst W k f) k g = zst W k g := by
  funext k'; by_cases h : k' = k <;> simp [zst, h]
theorem zst_id {W : zWd} {k : Nat} : zst W k (W k) = W := by
  funext k'; by_cases h : k' = k <;> simp [zst, h]
theorem zup_st {W : zWd} {k : Nat} {i v : Int} : zup W k i v = zst W k (iup (W k) i v) := by
  funext k' i'; by_cases h : k' = k <;> by_cases h2 : i' = i <;> simp [zst, zup, iup, h, h2]
def aF (a : Int → Int) : Nat → Int
  | 0 => 1
  | r + 1 => aF a r + a (8 + (r : Int))
def aO (a : Int → Int) (s : Int) : Int := a (18 + 2 * (s - 1)) - 1
def aL (a : Int → Int) (s : Int) : Int := a (18 + 2 * (s - 1) + 1)
def aP (a : Int → Int) (p w : Int) : Int := a (58 + 17 * p + w)
abbrev aForb (a : Int → Int) (p s : Int) : Prop := aO a s ≠ -1 ∧ aO a s ≠ p
def aRf (a : Int → Int) (s : Int) : Nat → Nat → Nat
  | 0, r => r
  | n + 1, r => if aF a r + a (8 + (r : Int)) ≤ s then aRf a s n (r + 1) else r
def aR (a : Int → Int) (s : Int) : Nat := aRf a s 10 0
def aOpn (a : Int → Int) (p : Int) : Nat → Int → Int
  | 0, _ => 0
  | n + 1, s => if aForb a p s then aOpn a p n (s + 1) else s
def aOpen (a : Int → Int) (p s : Int) : Int := aOpn a p (a 1 + 1 - s).toNat s
/-- the numbers in their ranges; T: a bound on all that is counted -/
def zWfP (T : Int) (a : Int → Int) (p : Int) : Prop :=
  1 ≤ aP a p 0 ∧ aP a p 0 ≤ 4 ∧ 1 ≤ aP a p 1 ∧ aP a p 1 ≤ 9 ∧ 0 ≤ aP a p 2 ∧ aP a p 2 ≤ a 1 ∧ 0 ≤ aP a p 3 ∧ aP a p 3 ≤ 9 ∧ 0 ≤ aP a p 4 ∧ aP a p 4 ≤ T ∧ 0 ≤ aP a p 5 ∧ aP a p 5 ≤ a 1 ∧ 0 ≤ aP a p 6 ∧ aP a p 6 ≤ T ∧ 0 ≤ aP a p 7 ∧ aP a p 7 ≤ T ∧ 0 ≤ aP a p 8 ∧ aP a p 8 ≤ 5
def zWf (T : Int) (a : Int → Int) : Prop :=
  2 ≤ a 0 ∧ a 0 ≤ 10 ∧ (∀ r : Int, 0 ≤ r → r < a 0 → 1 ≤ a (8 + r) ∧ a (8 + r) ≤ 2) ∧ a 1 = aF a (a 0).toNat - 1 ∧ 2 ≤ a 2 ∧ a 2 ≤ 6 ∧ -9 ≤ a 3 ∧ a 3 ≤ 9 ∧ 0 ≤ a 4 ∧ a 4 < a 2 ∧ 0 ≤ a 5 ∧ a 5 ≤ T ∧ 0 ≤ a 6 ∧ a 6 ≤ T ∧ 0 ≤ a 7 ∧ a 7 ≤ T ∧
  (∀ s : Int, 1 ≤ s → s ≤ a 1 → -1 ≤ aO a s ∧ aO a s < a 2 ∧ 0 ≤ aL a s ∧ aL a s ≤ T) ∧ (∀ p : Int, 0 ≤ p → p < a 2 → zWfP T a p) ∧ T ≤ 100000000
/-- the name's letters: len of them, then zeros -/
def zNam (a : Int → Int) (p len : Int) : Prop := 0 ≤ len ∧ len ≤ 8 ∧ (∀ k : Int, 0 ≤ k → k < len → 1 ≤ aP a p (9 + k) ∧ aP a p (9 + k) ≤ 127) ∧ ∀ k : Int, len ≤ k → k < 8 → aP a p (9 + k) = 0
/-- the court at c holds what a says -/
def zCRP (W : zWd) (c : Nat) (a : Int → Int) (p : Int) : Prop :=
  W (c + 5) (p * 10 + 0) = aP a p 0 ∧ W (c + 5) (p * 10 + 1) = aP a p 1 ∧ W (c + 5) (p * 10 + 2) = aP a p 2 ∧ W (c + 5) (p * 10 + 3) = aP a p 3 ∧ W (c + 5) (p * 10 + 4) = aP a p 4 ∧ W (c + 5) (p * 10 + 5) = (if aP a p 5 = 0 then -1 else aP a p 5) ∧ W (c + 5) (p * 10 + 7) = aP a p 6 ∧ W (c + 5) (p * 10 + 8) = aP a p 7 ∧ W (c + 5) (p * 10 + 9) = aP a p 8 ∧
  zNam a p (W (c + 7) p) ∧ ∀ k : Int, 0 ≤ k → k < W (c + 7) p → W (c + 6) (p * 8 + k) = aP a p (9 + k)
def zCR (W : zWd) (c : Nat) (a : Int → Int) : Prop :=
  W c 0 = a 0 ∧ W c 1 = a 1 ∧ W c 2 = a 2 ∧ W c 3 = a 3 ∧ W c 4 = a 4 ∧ W c 5 = a 5 ∧ W c 6 = a 6 ∧ W c 7 = a 7 ∧
  (∀ r : Nat, r ≤ 10 → (r : Int) ≤ a 0 → W (c + 1) r = aF a r) ∧ (∀ s : Int, 1 ≤ s → s ≤ 20 → s ≤ a 1 → W (c + 2) s = aR a s ∧ W (c + 3) s = aO a s ∧ W (c + 4) s = aL a s) ∧
  (∀ p : Int, 0 ≤ p → p < a 2 → zCRP W c a p) ∧ ∀ i : Int, 0 ≤ i → i < 48 → -128 ≤ W (c + 6) i ∧ W (c + 6) i < 128
theorem aF_mono {T : Int} {a : Int → Int} (h : zWf T a) : ∀ (n r : Nat), ((r + n : Nat) : Int) ≤ a 0 → aF a r + n ≤ aF a (r + n) ∧ aF a (r + n) ≤ aF a r + 2 * n := by
  intro n
  induction n with
  | zero => intro r _; simp
  | succ n ih =>
    intro r hr
    obtain ⟨h1, h2⟩ := ih r (by omega)
    have h3 := h.2.2.1 ((r + n : Nat) : Int) (by omega) (by omega)
    show aF a r + ((n + 1 : Nat) : Int) ≤ aF a (r + n) + a (8 + ((r + n : Nat) : Int)) ∧ aF a (r + n) + a (8 + ((r + n : Nat) : Int)) ≤ aF a r + 2 * ((n + 1 : Nat) : Int)
    omega
theorem aF_lo {T : Int} {a : Int → Int} (h : zWf T a) {r : Nat} (hr : (r : Int) ≤ a 0) : 1 + (r : Int) ≤ aF a r ∧ aF a r ≤ 1 + 2 * r := by
  have h1 := aF_mono h r 0 (by omega)
  rw [Nat.zero_add] at h1
  exact h1
theorem aF_le {T : Int} {a : Int → Int} (h : zWf T a) {r : Nat} (hr : (r : Int) ≤ a 0) : aF a r ≤ a 1 + 1 := by
  have h1 := aF_mono h ((a 0).toNat - r) r (by omega)
  rw [show r + ((a 0).toNat - r) = (a 0).toNat by have := h.1; omega] at h1
  have := h.2.2.2.1
  omega
theorem zWf.sq {T : Int} {a : Int → Int} (h : zWf T a) : 2 ≤ a 1 ∧ a 1 ≤ 20 := by
  have h0 := h.1
  have h00 := h.2.1
  have h1 := aF_lo h (r := (a 0).toNat) (by omega)
  have h2 := h.2.2.2.1
  omega
theorem aF_step {a : Int → Int} (r : Nat) : aF a (r + 1) = aF a r + a (8 + (r : Int)) := rfl
theorem aRf_spec {a : Int → Int} {s : Int} : ∀ (n r : Nat), aF a r ≤ s → s < aF a (r + n) → r ≤ aRf a s n r ∧ aRf a s n r < r + n ∧ aF a (aRf a s n r) ≤ s ∧ s < aF a (aRf a s n r + 1) := by
  intro n
  induction n with
  | zero => intro r h1 h2; rw [Nat.add_zero] at h2; omega
  | succ n ih =>
    intro r h1 h2
    unfold aRf
    by_cases q : aF a r + a (8 + (r : Int)) ≤ s
    · rw [if_pos q]
      have h3 := ih (r + 1) q (by rw [show r + 1 + n = r + (n + 1) by omega]; exact h2)
      omega
    · rw [if_neg q]
      refine ⟨Nat.le_refl _, by omega, h1, ?_⟩
      show s < aF a r + a (8 + (r : Int))
      omega
theorem aR_spec {T : Int} {a : Int → Int} (h : zWf T a) {s : Int} (h1 : 1 ≤ s) (h2 : s ≤ a 1) : ((aR a s : Nat) : Int) < a 0 ∧ aF a (aR a s) ≤ s ∧ s < aF a (aR a s + 1) := by
  have hs := h.2.2.2.1
  have hn := h.1
  have hn2 := h.2.1
  -- the fuel is ten, the rows may be fewer: the search ends in time
  have key : ∀ (m n r : Nat), m ≤ n → aF a r ≤ s → s < aF a (r + m) → r ≤ aRf a s n r ∧ aRf a s n r < r + m ∧ aF a (aRf a s n r) ≤ s ∧ s < aF a (aRf a s n r + 1) := by
    intro m
    induction m with
    | zero => intro n r _ h1 h2; rw [Nat.add_zero] at h2; omega
    | succ m ih =>
      intro n r hmn h1 h2
      cases n with
      | zero => omega
      | succ n =>
        unfold aRf
        by_cases q : aF a r + a (8 + (r : Int)) ≤ s
        · rw [if_pos q]
          have h3 := ih n (r + 1) (by omega) q (by rw [show r + 1 + m = r + (m + 1) by omega]; exact h2)
          omega
        · rw [if_neg q]
          refine ⟨Nat.le_refl _, by omega, h1, ?_⟩
          show s < aF a r + a (8 + (r : Int))
          omega
  have h3 := key (a 0).toNat 10 0 (by omega) (by show 1 ≤ s; exact h1) (by rw [Nat.zero_add]; omega)
  exact ⟨by show ((aRf a s 10 0 : Nat) : Int) < a 0; omega, h3.2.2.1, h3.2.2.2⟩
theorem aR_uniq {T : Int} {a : Int → Int} (h : zWf T a) {s : Int} {r r' : Nat} (hr : (r : Int) < a 0) (hr' : (r' : Int) < a 0) (h1 : aF a r ≤ s) (h2 : s < aF a (r + 1)) (h3 : aF a r' ≤ s) (h4 : s < aF a (r' + 1)) : r = r' := by
  rcases Nat.lt_trichotomy r r' with q | q | q
  · have h5 := (aF_mono h (r' - (r + 1)) (r + 1) (by omega)).1
    rw [show r + 1 + (r' - (r + 1)) = r' by omega] at h5
    omega
  · exact q
  · have h5 := (aF_mono h (r - (r' + 1)) (r' + 1) (by omega)).1
    rw [show r' + 1 + (r - (r' + 1)) = r by omega] at h5
    omega
/-! sets of squares -/
def zSet (P : Nat → Bool) : Nat → Nat
  | 0 => 0
  | n + 1 => if P (n + 1) then zSet P n ||| 2 ^ (n + 1) else zSet P n
theorem zSet_bit (P : Nat → Bool) : ∀ (n i : Nat), (zSet P n).testBit i = (decide (1 ≤ i ∧ i ≤ n) && P i) := by
  intro n
  induction n with
  | zero => intro i; simp [zSet]; omega
  | succ n ih =>
    intro i
    unfold zSet
    by_cases hp : P (n + 1)
    · rw [if_pos hp, Nat.testBit_or, ih, Nat.testBit_two_pow]
      by_cases hi : n + 1 = i
      · subst hi; simp [hp]
      · have : (1 ≤ i ∧ i ≤ n + 1) ↔ (1 ≤ i ∧ i ≤ n) := by omega
        simp [hi, this]
    · rw [if_neg hp, ih]
      by_cases hi : n + 1 = i
      · subst hi; simp [hp]
      · have : (1 ≤ i ∧ i ≤ n + 1) ↔ (1 ≤ i ∧ i ≤ n) := by omega
        simp [this]
theorem zSet_lt (P : Nat → Bool) : ∀ n, zSet P n < 2 ^ (n + 1) := by
  intro n
  induction n with
  | zero => simp [zSet]
  | succ n ih =>
    have h1 : 2 ^ (n + 1) < 2 ^ (n + 1 + 1) := Nat.pow_lt_pow_right (by decide) (by omega)
    unfold zSet
    split
    · exact Nat.or_lt_two_pow (by omega) h1
    · omega
/-- the markers of all but w -/
def zMks (a : Int → Int) (w : Int) : Nat → Nat
  | 0 => 0
  | q + 1 => if (q : Int) ≠ w ∧ aP a q 5 ≠ 0 then zMks a w q ||| 2 ^ (aP a q 5).toNat else zMks a w q
theorem zMks_bit {a : Int → Int} {w : Int} : ∀ (n : Nat), (∀ q : Int, 0 ≤ q → q < n → 0 ≤ aP a q 5) → ∀ i : Nat, (zMks a w n).testBit i = true ↔ ∃ q : Int, 0 ≤ q ∧ q < n ∧ q ≠ w ∧ aP a q 5 ≠ 0 ∧ aP a q 5 = i := by
  intro n
  induction n with
  | zero => intro _ i; simp [zMks]; omega
  | succ n ih =>
    intro hp i
    have ih := ih (fun q h1 h2 => hp q h1 (by omega)) i
    have h0 := hp n (by omega) (by omega)
    unfold zMks
    by_cases hc : (n : Int) ≠ w ∧ aP a n 5 ≠ 0
    · rw [if_pos hc, Nat.testBit_or, Nat.testBit_two_pow, Bool.or_eq_true, ih]
      constructor
      · rintro (⟨q, h1, h2, h3⟩ | h)
        · exact ⟨q, h1, by omega, h3⟩
        · have h := of_decide_eq_true h
          exact ⟨n, by omega, by omega, hc.1, hc.2, by omega⟩
      · rintro ⟨q, h1, h2, h3, h4, h5⟩
        by_cases hq : q = n
        · subst hq; exact Or.inr (decide_eq_true (by omega))
        · exact Or.inl ⟨q, h1, by omega, h3, h4, h5⟩
    · rw [if_neg hc, ih]
      constructor
      · rintro ⟨q, h1, h2, h3⟩
        exact ⟨q, h1, by omega, h3⟩
      · rintro ⟨q, h1, h2, h3, h4, h5⟩
        by_cases hq : q = n
        · subst hq; exact absurd ⟨h3, h4⟩ hc
        · exact ⟨q, h1, by omega, h3, h4, h5⟩
theorem zMks_lt {a : Int → Int} {w : Int} : ∀ (n : Nat), (∀ q : Int, 0 ≤ q → q < n → aP a q 5 ≤ 20) → zMks a w n < 2 ^ 21 := by
  intro n
  induction n with
  | zero => intro _; simp [zMks]
  | succ n ih =>
    intro hp
    have ih := ih (fun q h1 h2 => hp q h1 (by omega))
    have h0 := hp n (by omega) (by omega)
    unfold zMks
    split
    · exact Nat.or_lt_two_pow ih (Nat.pow_lt_pow_right (by decide) (by omega))
    · exact ih
