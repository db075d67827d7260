/-! counts, and what a change does to a court -/
def zCnt (P : Nat → Bool) : Nat → Nat
  | 0 => 0
  | n + 1 => zCnt P n + (if P n then 1 else 0)
def zSet0 (P : Nat → Bool) : Nat → Nat
  | 0 => 0
  | n + 1 => if P n then zSet0 P n ||| 2 ^ n else zSet0 P n
theorem zSet0_lt (P : Nat → Bool) : ∀ n, zSet0 P n < 2 ^ n := by
  intro n
  induction n with
  | zero => exact Nat.one_pos
  | succ n ih =>
    have h1 : 2 ^ n < 2 ^ (n + 1) := Nat.pow_lt_pow_right (by decide) (by omega)
    unfold zSet0
    split
    · exact Nat.or_lt_two_pow (by omega) h1
    · omega
theorem z_p32 {k : Nat} (h : k < 32) : 2 ^ k < 4294967296 := Nat.pow_lt_pow_right (a := 2) (by decide) h
theorem zSet_32 (P : Nat → Bool) {n : Nat} (h : n ≤ 20) : zSet P n < 2097152 := Nat.lt_of_lt_of_le (zSet_lt P n) (Nat.pow_le_pow_right (n := 2) (by decide) (show n + 1 ≤ 21 by omega))
theorem zSet0_32 (P : Nat → Bool) {n : Nat} (h : n ≤ 6) : zSet0 P n < 64 := Nat.lt_of_lt_of_le (zSet0_lt P n) (Nat.pow_le_pow_right (n := 2) (by decide) h)
/-- how many squares q owns -/
def aNown (a : Int → Int) (q : Int) : Nat := zBits (zSet (fun s => decide (aO a s = q)) (a 1).toNat) 21
def aRich (a : Int → Int) : Nat → Int × Int
  | 0 => (-1, 0)
  | q + 1 => if (aRich a q).2 < (aNown a q : Int) then ((q : Int), (aNown a q : Int)) else aRich a q
def aUset (a : Int → Int) (q : Int) (m : Nat) : Nat := (zSet (fun s => decide (aO a s = -1)) (a 1).toNat ||| zSet (fun s => decide (aO a s = q)) (a 1).toNat) ^^^ ((zSet (fun s => decide (aO a s = -1)) (a 1).toNat ||| zSet (fun s => decide (aO a s = q)) (a 1).toNat) &&& m)
theorem aUset_bit {a : Int → Int} {q : Int} {m i : Nat} (h : 0 ≤ a 1) : (aUset a q m).testBit i = true ↔ 1 ≤ i ∧ (i : Int) ≤ a 1 ∧ ¬ aForb a q i ∧ m.testBit i = false := by
  unfold aUset
  rw [Nat.testBit_xor, Nat.testBit_and, Nat.testBit_or, zSet_bit, zSet_bit]
  by_cases h1 : 1 ≤ i ∧ i ≤ (a 1).toNat
  · have h2 : (i : Int) ≤ a 1 := by omega
    by_cases e1 : aO a i = -1 <;> by_cases e2 : aO a i = q <;> cases hm : m.testBit i <;> simp [h1, h2, e1, e2, aForb]
  · have h2 : ¬ (1 ≤ i ∧ (i : Int) ≤ a 1) := by omega
    simp [h1]
    intro g1 g2
    exact absurd ⟨g1, g2⟩ h2
theorem aUset_lt {a : Int → Int} {q : Int} {m : Nat} (h : a 1 ≤ 20) : aUset a q m < 2097152 := by
  have h1 := zSet_32 (fun s => decide (aO a s = -1)) (n := (a 1).toNat) (by omega)
  have h2 := zSet_32 (fun s => decide (aO a s = q)) (n := (a 1).toNat) (by omega)
  have h3 := Nat.or_lt_two_pow (n := 21) h1 h2
  exact Nat.xor_lt_two_pow (n := 21) h3 (Nat.lt_of_le_of_lt Nat.and_le_left h3)
def zFo (f : Nat) (w : Int) (u o : Nat → Bool) : Int :=
  if ¬ (u f = true) ∧ ¬ (w = 2 ∧ u (f + 1) = true) then 0 else if (w = 2 ∧ u f = true ∧ u (f + 1) = true) ∨ (u f = true ∧ o f = true) ∨ (w = 2 ∧ u (f + 1) = true ∧ o (f + 1) = true) then 2 else 1
theorem z_row1 (f u : Nat) : 2 ^ f &&& u = if u.testBit f then 2 ^ f else 0 := by
  apply Nat.eq_of_testBit_eq
  intro i
  rw [Nat.testBit_and, Nat.testBit_two_pow]
  by_cases h : f = i
  · subst h; by_cases hu : u.testBit f <;> simp [hu]
  · by_cases hu : u.testBit f <;> simp [h, hu, Nat.testBit_two_pow]
theorem z_row2 (f u : Nat) : (2 ^ f ||| 2 ^ (f + 1)) &&& u = (if u.testBit f then 2 ^ f else 0) ||| (if u.testBit (f + 1) then 2 ^ (f + 1) else 0) := by
  rw [Nat.and_or_distrib_right, z_row1, z_row1]
theorem z_sum : ∀ f, f < 21 → 2 ^ f ||| 2 ^ (f + 1) = 3 * 2 ^ f ∧ zPc (2 ^ f) = 1 ∧ (f < 20 → zPc (2 ^ f ||| 2 ^ (f + 1)) = 2) := by decide +kernel
theorem z_or0 {x y : Nat} : x ||| y = 0 ↔ x = 0 ∧ y = 0 := by
  constructor
  · intro h
    have h1 : x ≤ x ||| y := Nat.left_le_or
    have h2 : y ≤ x ||| y := Nat.right_le_or
    omega
  · rintro ⟨rfl, rfl⟩; rfl
/-- what a throw comes to -/
def aFault (a : Int → Int) (q power side : Int) : Int :=
  if power + a 3 < 0 ∨ a 0 ≤ (power + a 3) / 10 then 1 else if (power + a 3) % 10 = 0 then 2 else if aF a ((power + a 3) / 10).toNat + (if a (8 + (power + a 3) / 10) = 2 then side else 0) = aP a q 2 then 0 else 3
/-- landings -/
def aLd (P : Int → Bool) : Nat → Int → (Int → Int) → (Int → Int)
  | 0, _, a => a
  | n + 1, s, a => aLd P n (s + 1) (if P s then iup a (18 + 2 * (s - 1) + 1) (a (18 + 2 * (s - 1) + 1) + 1) else a)
def aLand (a : Int → Int) (row : Int) (P : Int → Bool) : Int → Int :=
  if row < 0 ∨ a 0 ≤ row then a else aLd P (a (8 + row)).toNat (aF a row.toNat) a
/-- the target moves on -/
def aMove (a : Int → Int) (p : Int) : Int → Int :=
  if aOpen a p (aP a p 2 + 1) = 0 then
    (let a1 := iup a (58 + 17 * p + 4) (aP a p 4 + 1)
     let a2 := iup a1 (58 + 17 * p + 3) (if aP a p 3 + 1 < 9 then aP a p 3 + 1 else 9)
     iup a2 (58 + 17 * p + 2) (aOpen a p 1))
  else iup a (58 + 17 * p + 2) (aOpen a p (aP a p 2 + 1))
/-- a turn's end -/
def aEnd (a : Int → Int) (p fault : Int) : Int → Int :=
  let a1 := iup a (58 + 17 * p + 6) (aP a p 6 + 1)
  let a2 := iup a1 (58 + 17 * p + 8) fault
  let a3 := iup a2 5 (a 5 + 1)
  iup a3 4 ((p + 1) % a 2)
def aFlt (a : Int → Int) (p fault : Int) : Int → Int := if fault = 0 then a else iup a (58 + 17 * p + 7) (aP a p 7 + 1)
/-- targets that are forbidden become others -/
def aMendT (a : Int → Int) (p : Int) : Int :=
  if aP a p 2 = 0 ∨ aForb a p (aP a p 2) then (if aOpen a p (aP a p 2 + 1) = 0 then aOpen a p 1 else aOpen a p (aP a p 2 + 1)) else aP a p 2
def aMendN (a : Int → Int) : Nat → (Int → Int)
  | 0 => a
  | p + 1 => iup (aMendN a p) (58 + 17 * (p : Int) + 2) (aMendT a p)
def aMend (a : Int → Int) : Int → Int := aMendN a (a 2).toNat
/-! what doesn't change -/
theorem aF_cg {a a' : Int → Int} (h : ∀ j : Int, 8 ≤ j → j < 18 → a' j = a j) : ∀ r : Nat, r ≤ 10 → aF a' r = aF a r := by
  intro r
  induction r with
  | zero => intro _; rfl
  | succ r ih => intro hr; rw [aF_step, aF_step, ih (by omega), h _ (by omega) (by omega)]
theorem aRf_cg {a a' : Int → Int} (h : ∀ j : Int, 8 ≤ j → j < 18 → a' j = a j) (s : Int) : ∀ n r : Nat, r + n ≤ 10 → aRf a' s n r = aRf a s n r := by
  intro n
  induction n with
  | zero => intro r _; rfl
  | succ n ih =>
    intro r hr
    unfold aRf
    rw [aF_cg h r (by omega), h _ (by omega) (by omega), ih (r + 1) (by omega)]
theorem aR_cg {a a' : Int → Int} (h : ∀ j : Int, 8 ≤ j → j < 18 → a' j = a j) (s : Int) : aR a' s = aR a s := aRf_cg h s 10 0 (by omega)
/-- a player's number: place j in the court's row, place w in the reference's -/
def zPj (j w v v' : Int) : Prop := (0 ≤ j ∧ j ≤ 4 ∧ w = j ∧ v = v') ∨ (j = 5 ∧ w = 5 ∧ v = if v' = 0 then -1 else v') ∨ (j = 7 ∧ w = 6 ∧ v = v') ∨ (j = 8 ∧ w = 7 ∧ v = v') ∨ (j = 9 ∧ w = 8 ∧ v = v')
theorem CR_P {W : zWd} {c : Nat} {a : Int → Int} {p j w v v' : Int} (h : zCR W c a) (hp0 : 0 ≤ p) (hj : zPj j w v v') : zCR (zup W (c + 5) (p * 10 + j) v) c (iup a (58 + 17 * p + w) v') := by
  obtain ⟨r0, r1, r2, r3, r4, r5, r6, r7, rF, rS, rP, rB⟩ := h
  have hjw : 0 ≤ w ∧ w ≤ 8 ∧ 0 ≤ j ∧ j ≤ 9 := by unfold zPj at hj; omega
  have n5 : ∀ (k : Nat) (i : Int), k ≠ c + 5 → zup W (c + 5) (p * 10 + j) v k i = W k i := fun k i hk => zup_k hk
  have na : ∀ i : Int, i < 58 → iup a (58 + 17 * p + w) v' i = a i := fun i hi => iup_n (by omega)
  have nF : ∀ i : Int, 8 ≤ i → i < 18 → iup a (58 + 17 * p + w) v' i = a i := fun i _ hi => na i (by omega)
  refine ⟨?_, ?_, ?_, ?_, ?_, ?_, ?_, ?_, ?_, ?_, ?_, ?_⟩
  · rw [n5 _ _ (by omega), na _ (by omega)]; exact r0
  · rw [n5 _ _ (by omega), na _ (by omega)]; exact r1
  · rw [n5 _ _ (by omega), na _ (by omega)]; exact r2
  · rw [n5 _ _ (by omega), na _ (by omega)]; exact r3
  · rw [n5 _ _ (by omega), na _ (by omega)]; exact r4
  · rw [n5 _ _ (by omega), na _ (by omega)]; exact r5
  · rw [n5 _ _ (by omega), na _ (by omega)]; exact r6
  · rw [n5 _ _ (by omega), na _ (by omega)]; exact r7
  · intro r hr10 hr
    rw [na _ (by omega)] at hr
    rw [n5 _ _ (by omega), aF_cg nF r hr10]; exact rF r hr10 hr
  · intro s h1 h20 h2
    rw [na _ (by omega)] at h2
    obtain ⟨s1, s2, s3⟩ := rS s h1 h20 h2
    refine ⟨?_, ?_, ?_⟩
    · rw [n5 _ _ (by omega), aR_cg nF]; exact s1
    · rw [n5 _ _ (by omega)]; unfold aO; rw [na _ (by omega)]; exact s2
    · rw [n5 _ _ (by omega)]; unfold aL; rw [na _ (by omega)]; exact s3
  · intro p' hp0' hp'
    rw [na _ (by omega)] at hp'
    obtain ⟨q0, q1, q2, q3, q4, q5, q7, q8, q9, ⟨g1, g2, g3, g4⟩, g5⟩ := rP p' hp0' hp'
    have e7 : zup W (c + 5) (p * 10 + j) v (c + 7) p' = W (c + 7) p' := n5 _ _ (by omega)
    have eN : ∀ k : Int, 0 ≤ k → k < 8 → aP (iup a (58 + 17 * p + w) v') p' (9 + k) = aP a p' (9 + k) := fun k hk hk8 => by unfold aP; exact iup_n (by omega)
    refine ⟨?_, ?_, ?_, ?_, ?_, ?_, ?_, ?_, ?_, ⟨?_, ?_, ?_, ?_⟩, ?_⟩
    all_goals first
      | (rw [e7]; assumption)
      | (intro k hk0 hk1; rw [e7] at hk1; rw [eN k hk0 (by omega)]; exact g3 k hk0 hk1)
      | (intro k hk0 hk1; rw [e7] at hk0; rw [eN k (by omega) hk1]; exact g4 k hk0 hk1)
      | (intro k hk0 hk1; rw [e7] at hk1; rw [eN k hk0 (by omega), n5 _ _ (by omega)]; exact g5 k hk0 hk1)
      | skip
    all_goals
      unfold zPj at hj
      by_cases hpp : p' = p
      · subst hpp
        unfold aP at *
        simp only [zup, iup, if_true]
        (repeat' split) <;> omega
      · have ea : ∀ k : Int, 0 ≤ k → k ≤ 8 → aP (iup a (58 + 17 * p + w) v') p' k = aP a p' k := fun k h1 h2 => by unfold aP; exact iup_n (by omega)
        rw [zup_i (by omega), ea _ (by omega) (by omega)]
        assumption
  · intro i hi0 hi1
    rw [n5 _ _ (by omega)]; exact rB i hi0 hi1
/-- a number of the court: places 3 to 7 -/
theorem CR_0 {W : zWd} {c : Nat} {a : Int → Int} {j v : Int} (h : zCR W c a) (hj : 3 ≤ j ∧ j ≤ 7) : zCR (zup W c j v) c (iup a j v) := by
  obtain ⟨r0, r1, r2, r3, r4, r5, r6, r7, rF, rS, rP, rB⟩ := h
  have n5 : ∀ (k : Nat) (i : Int), k ≠ c → zup W c j v k i = W k i := fun k i hk => zup_k hk
  have na : ∀ i : Int, i < 3 ∨ 7 < i → iup a j v i = a i := fun i hi => iup_n (by omega)
  have nF : ∀ i : Int, 8 ≤ i → i < 18 → iup a j v i = a i := fun i _ hi => na i (by omega)
  have e : ∀ i : Int, W c i = a i → zup W c j v c i = iup a j v i := fun i hi => by
    by_cases q : i = j
    · subst q; rw [zup_s, iup_s]
    · rw [zup_i q, iup_n q]; exact hi
  refine ⟨e _ r0, e _ r1, e _ r2, e _ r3, e _ r4, e _ r5, e _ r6, e _ r7, ?_, ?_, ?_, ?_⟩
  · intro r hr10 hr
    rw [na _ (by omega)] at hr
    rw [n5 _ _ (by omega), aF_cg nF r hr10]; exact rF r hr10 hr
  · intro s h1 h20 h2
    rw [na _ (by omega)] at h2
    obtain ⟨s1, s2, s3⟩ := rS s h1 h20 h2
    refine ⟨?_, ?_, ?_⟩
    · rw [n5 _ _ (by omega), aR_cg nF]; exact s1
    · rw [n5 _ _ (by omega)]; unfold aO; rw [na _ (by omega)]; exact s2
    · rw [n5 _ _ (by omega)]; unfold aL; rw [na _ (by omega)]; exact s3
  · intro p' hp0' hp'
    rw [na _ (by omega)] at hp'
    have h9 := rP p' hp0' hp'
    have e9 : ∀ w : Int, 0 ≤ w → aP (iup a j v) p' w = aP a p' w := fun w hw => by unfold aP; exact na _ (by omega)
    have ek : ∀ k : Int, 0 ≤ k → aP (iup a j v) p' (9 + k) = aP a p' (9 + k) := fun k hk => e9 _ (by omega)
    obtain ⟨q0, q1, q2, q3, q4, q5, q7, q8, q9, ⟨g1, g2, g3, g4⟩, g5⟩ := h9
    refine ⟨?_, ?_, ?_, ?_, ?_, ?_, ?_, ?_, ?_, ⟨?_, ?_, ?_, ?_⟩, ?_⟩
    all_goals first
      | (rw [n5 _ _ (by omega), e9 _ (by omega)]; assumption)
      | (rw [n5 _ _ (by omega)]; assumption)
      | (intro k hk0 hk1; rw [n5 _ _ (by omega)] at hk1; rw [ek k hk0]; exact g3 k hk0 hk1)
      | (intro k hk0 hk1; rw [n5 _ _ (by omega)] at hk0; rw [ek k (by omega)]; exact g4 k hk0 hk1)
      | (intro k hk0 hk1; rw [n5 _ _ (by omega)] at hk1; rw [ek k hk0, n5 _ _ (by omega)]; exact g5 k hk0 hk1)
  · intro i hi0 hi1
    rw [n5 _ _ (by omega)]; exact rB i hi0 hi1
/-- an owner, or the landings of a square -/
theorem CR_S {W : zWd} {c : Nat} {a : Int → Int} {s v : Int} {o : Nat} (h : zCR W c a) (h1 : 1 ≤ s) (h20 : s ≤ 20) (ho : o = 0 ∨ o = 1) : zCR (zup W (c + 3 + o) s v) c (iup a (18 + 2 * (s - 1) + o) (if o = 0 then v + 1 else v)) := by
  obtain ⟨r0, r1, r2, r3, r4, r5, r6, r7, rF, rS, rP, rB⟩ := h
  have n5 : ∀ (k : Nat) (i : Int), k ≠ c + 3 + o → zup W (c + 3 + o) s v k i = W k i := fun k i hk => zup_k hk
  have na : ∀ i : Int, i < 18 ∨ 58 ≤ i → iup a (18 + 2 * (s - 1) + o) (if o = 0 then v + 1 else v) i = a i := fun i hi => iup_n (by omega)
  have nF : ∀ i : Int, 8 ≤ i → i < 18 → iup a (18 + 2 * (s - 1) + o) (if o = 0 then v + 1 else v) i = a i := fun i _ hi => na i (by omega)
  refine ⟨?_, ?_, ?_, ?_, ?_, ?_, ?_, ?_, ?_, ?_, ?_, ?_⟩
  · rw [n5 _ _ (by omega), na _ (by omega)]; exact r0
  · rw [n5 _ _ (by omega), na _ (by omega)]; exact r1
  · rw [n5 _ _ (by omega), na _ (by omega)]; exact r2
  · rw [n5 _ _ (by omega), na _ (by omega)]; exact r3
  · rw [n5 _ _ (by omega), na _ (by omega)]; exact r4
  · rw [n5 _ _ (by omega), na _ (by omega)]; exact r5
  · rw [n5 _ _ (by omega), na _ (by omega)]; exact r6
  · rw [n5 _ _ (by omega), na _ (by omega)]; exact r7
  · intro r hr10 hr
    rw [na _ (by omega)] at hr
    rw [n5 _ _ (by omega), aF_cg nF r hr10]; exact rF r hr10 hr
  · intro s' h1' h20' h2'
    rw [na _ (by omega)] at h2'
    obtain ⟨s1, s2, s3⟩ := rS s' h1' h20' h2'
    refine ⟨?_, ?_, ?_⟩
    · rw [n5 _ _ (by omega), aR_cg nF]; exact s1
    · rcases ho with rfl | rfl
      · by_cases q : s' = s
        · subst q
          show zup W (c + 3) s' v (c + 3) s' = iup a (18 + 2 * (s' - 1) + 0) (v + 1) (18 + 2 * (s' - 1)) - 1
          rw [zup_s, Int.add_zero, iup_s]; omega
        · show zup W (c + 3) s v (c + 3) s' = iup a (18 + 2 * (s - 1) + 0) (v + 1) (18 + 2 * (s' - 1)) - 1
          rw [zup_i q, iup_n (by omega)]; exact s2
      · rw [n5 _ _ (by omega)]; unfold aO; rw [iup_n (by omega)]; exact s2
    · rcases ho with rfl | rfl
      · rw [n5 _ _ (by omega)]; unfold aL; rw [iup_n (by omega)]; exact s3
      · by_cases q : s' = s
        · subst q
          show zup W (c + 4) s' v (c + 4) s' = iup a (18 + 2 * (s' - 1) + 1) v (18 + 2 * (s' - 1) + 1)
          rw [zup_s, iup_s]
        · show zup W (c + 4) s v (c + 4) s' = iup a (18 + 2 * (s - 1) + 1) v (18 + 2 * (s' - 1) + 1)
          rw [zup_i q, iup_n (by omega)]; exact s3
  · intro p' hp0' hp'
    rw [na _ (by omega)] at hp'
    have h9 := rP p' hp0' hp'
    have e9 : ∀ w : Int, 0 ≤ w → aP (iup a (18 + 2 * (s - 1) + o) (if o = 0 then v + 1 else v)) p' w = aP a p' w := fun w hw => by unfold aP; exact na _ (by omega)
    have ek : ∀ k : Int, 0 ≤ k → aP (iup a (18 + 2 * (s - 1) + o) (if o = 0 then v + 1 else v)) p' (9 + k) = aP a p' (9 + k) := fun k hk => e9 _ (by omega)
    obtain ⟨q0, q1, q2, q3, q4, q5, q7, q8, q9, ⟨g1, g2, g3, g4⟩, g5⟩ := h9
    refine ⟨?_, ?_, ?_, ?_, ?_, ?_, ?_, ?_, ?_, ⟨?_, ?_, ?_, ?_⟩, ?_⟩
    all_goals first
      | (rw [n5 _ _ (by omega), e9 _ (by omega)]; assumption)
      | (rw [n5 _ _ (by omega)]; assumption)
      | (intro k hk0 hk1; rw [n5 _ _ (by omega)] at hk1; rw [ek k hk0]; exact g3 k hk0 hk1)
      | (intro k hk0 hk1; rw [n5 _ _ (by omega)] at hk0; rw [ek k (by omega)]; exact g4 k hk0 hk1)
      | (intro k hk0 hk1; rw [n5 _ _ (by omega)] at hk1; rw [ek k hk0, n5 _ _ (by omega)]; exact g5 k hk0 hk1)
  · intro i hi0 hi1
    rw [n5 _ _ (by omega)]; exact rB i hi0 hi1
/-- only what lies at the court matters -/
theorem CR_off {W W' : zWd} {c : Nat} {a : Int → Int} (h : zCR W c a) (hW : ∀ k : Nat, c ≤ k → k < c + 8 → W' k = W k) : zCR W' c a := by
  obtain ⟨r0, r1, r2, r3, r4, r5, r6, r7, rF, rS, rP, rB⟩ := h
  have e0 := hW c (by omega) (by omega)
  have e1 := hW (c + 1) (by omega) (by omega)
  have e2 := hW (c + 2) (by omega) (by omega)
  have e3 := hW (c + 3) (by omega) (by omega)
  have e4 := hW (c + 4) (by omega) (by omega)
  have e5 := hW (c + 5) (by omega) (by omega)
  have e6 := hW (c + 6) (by omega) (by omega)
  have e7 := hW (c + 7) (by omega) (by omega)
  unfold zCR zCRP
  rw [e0, e1, e2, e3, e4, e5, e6, e7]
  exact ⟨r0, r1, r2, r3, r4, r5, r6, r7, rF, rS, rP, rB⟩
