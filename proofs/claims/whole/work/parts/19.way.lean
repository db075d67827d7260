/-! WAYS: places 0 .. L, F: the footing of each (2 on ground), at most rc rows a hop, at most bal shaky landings without a rest, must: a place that may not be hopped over -/
def zRn (F : Nat → Int) (to run : Nat) : Nat := if F to = 2 then 0 else run + 1
abbrev zOk (F : Nat → Int) (L must bal k to run : Nat) : Prop := to ≤ L ∧ ¬ (k < must ∧ must < to) ∧ 0 < F to ∧ zRn F to run ≤ bal
def zBy (F : Nat → Int) (L must bal : Nat) (V : Nat → Nat → Int) (k run to : Nat) : Int := if zOk F L must bal k to run then ((to : Int) - k) * ((to : Int) - k) + V to (zRn F to run) else 1000000
def zMn (f : Nat → Int) : Nat → Int
  | 0 => 1000000
  | j + 1 => if f (j + 1) < zMn f j then f (j + 1) else zMn f j
def zAg (f : Nat → Int) : Nat → Nat
  | 0 => 0
  | j + 1 => if f (j + 1) < zMn f j then j + 1 else zAg f j
def zVf (F : Nat → Int) (L must rc bal : Nat) : Nat → Nat → Nat → Int
  | 0, _, _ => 1000000
  | n + 1, k, run => if k = L then 0 else zMn (fun j => zBy F L must bal (zVf F L must rc bal n) k run (k + j)) rc
def zV (F : Nat → Int) (L must rc bal : Nat) (k run : Nat) : Int := zVf F L must rc bal (L + 1 - k) k run
theorem zMn_le (f : Nat → Int) : ∀ n, zMn f n ≤ 1000000 := by
  intro n
  induction n with
  | zero => exact Int.le_refl _
  | succ n ih => unfold zMn; split <;> omega
theorem zMn_low (f : Nat → Int) : ∀ n j, 1 ≤ j → j ≤ n → zMn f n ≤ f j := by
  intro n
  induction n with
  | zero => intro j h1 h2; omega
  | succ n ih =>
    intro j h1 h2
    unfold zMn
    by_cases q : j = n + 1
    · subst q; split <;> omega
    · have := ih j h1 (by omega)
      split <;> omega
theorem zMn_cg {f g : Nat → Int} : ∀ n, (∀ j, 1 ≤ j → j ≤ n → f j = g j) → zMn f n = zMn g n ∧ zAg f n = zAg g n := by
  intro n
  induction n with
  | zero => intro _; exact ⟨rfl, rfl⟩
  | succ n ih =>
    intro h
    obtain ⟨h1, h2⟩ := ih (fun j g1 g2 => h j g1 (by omega))
    have h3 := h (n + 1) (by omega) (by omega)
    unfold zMn zAg
    rw [h1, h2, h3]
    exact ⟨rfl, rfl⟩
/-- the first that attains the least -/
theorem zAg_spec (f : Nat → Int) : ∀ n, zMn f n < 1000000 → 1 ≤ zAg f n ∧ zAg f n ≤ n ∧ f (zAg f n) = zMn f n ∧ ∀ j, 1 ≤ j → j < zAg f n → f j ≠ zMn f n := by
  intro n
  induction n with
  | zero => intro h; exact absurd h (by show ¬ (1000000 : Int) < 1000000; omega)
  | succ n ih =>
    intro h
    unfold zMn at h
    unfold zMn zAg
    by_cases q : f (n + 1) < zMn f n
    · rw [if_pos q, if_pos q]
      refine ⟨by omega, by omega, rfl, fun j h1 h2 => ?_⟩
      have := zMn_low f n j h1 (by omega)
      omega
    · rw [if_neg q] at h
      rw [if_neg q, if_neg q]
      obtain ⟨g1, g2, g3, g4⟩ := ih h
      exact ⟨g1, by omega, g3, g4⟩
theorem zSq {a b : Int} (h1 : 1 ≤ b) (h2 : b ≤ 4) (h : a = b) : 1 ≤ a * a ∧ a * a ≤ 16 := by
  subst h
  rcases (show a = 1 ∨ a = 2 ∨ a = 3 ∨ a = 4 by omega) with rfl | rfl | rfl | rfl <;> decide
section WY
variable {F : Nat → Int} {L must rc bal : Nat}
theorem zMn_nn {f : Nat → Int} : ∀ n, (∀ j, 1 ≤ j → j ≤ n → 0 ≤ f j) → 0 ≤ zMn f n := by
  intro n
  induction n with
  | zero => intro _; show (0 : Int) ≤ 1000000; omega
  | succ n ih =>
    intro h
    have h1 := ih (fun j g1 g2 => h j g1 (by omega))
    have h2 := h (n + 1) (by omega) (by omega)
    unfold zMn; split <;> omega
theorem zBy_nn {V : Nat → Nat → Int} {k run to : Nat} (hV : ∀ k run, 0 ≤ V k run) : 0 ≤ zBy F L must bal V k run to := by
  unfold zBy
  split
  · have h1 := hV to (zRn F to run)
    have h2 : 0 ≤ ((to : Int) - k) * ((to : Int) - k) := by
      rcases Int.le_total 0 ((to : Int) - k) with q | q
      · exact Int.mul_nonneg q q
      · exact Int.mul_nonneg_of_nonpos_of_nonpos q q
    omega
  · omega
theorem zVf_rng : ∀ n k run, 0 ≤ zVf F L must rc bal n k run ∧ zVf F L must rc bal n k run ≤ 1000000 := by
  intro n
  induction n with
  | zero => intro k run; exact ⟨by show (0 : Int) ≤ 1000000; omega, Int.le_refl _⟩
  | succ n ih =>
    intro k run
    unfold zVf
    split
    · omega
    · exact ⟨zMn_nn rc (fun j _ _ => zBy_nn (fun k run => (ih k run).1)), zMn_le _ _⟩
theorem zV_rng (k run : Nat) : 0 ≤ zV F L must rc bal k run ∧ zV F L must rc bal k run ≤ 1000000 := zVf_rng _ k run
theorem zVf_fuel : ∀ n m k run, k ≤ L → L - k < n → L - k < m → zVf F L must rc bal n k run = zVf F L must rc bal m k run := by
  intro n
  induction n with
  | zero => intro m k run _ h _; omega
  | succ n ih =>
    intro m k run hk h1 h2
    cases m with
    | zero => omega
    | succ m =>
      unfold zVf
      by_cases q : k = L
      · rw [if_pos q, if_pos q]
      · rw [if_neg q, if_neg q]
        refine (zMn_cg rc (fun j g1 g2 => ?_)).1
        unfold zBy
        by_cases z : zOk F L must bal k (k + j) run
        · rw [if_pos z, if_pos z, ih m (k + j) _ z.1 (by omega) (by omega)]
        · rw [if_neg z, if_neg z]
theorem zV_goal (run : Nat) : zV F L must rc bal L run = 0 := by
  unfold zV
  rw [show L + 1 - L = 0 + 1 by omega]
  unfold zVf
  rw [if_pos rfl]
theorem zV_eq {k : Nat} (hk : k < L) (run : Nat) : zV F L must rc bal k run = zMn (fun j => zBy F L must bal (zV F L must rc bal) k run (k + j)) rc := by
  unfold zV
  rw [show L + 1 - k = (L - k) + 1 by omega]
  rw [zVf, if_neg (by omega)]
  refine (zMn_cg rc (fun j g1 g2 => ?_)).1
  unfold zBy
  by_cases z : zOk F L must bal k (k + j) run
  · rw [if_pos z, if_pos z, zVf_fuel (L - k) (L + 1 - (k + j)) (k + j) _ z.1 (by omega) (by omega)]
  · rw [if_neg z, if_neg z]
/-- the next place -/
def zNx (F : Nat → Int) (L must rc bal : Nat) (k run : Nat) : Nat := k + zAg (fun j => zBy F L must bal (zV F L must rc bal) k run (k + j)) rc
def zHp (F : Nat → Int) (L must rc bal : Nat) : Nat → Nat → Nat → List Nat
  | 0, _, _ => []
  | n + 1, k, run => if k = L then [] else zNx F L must rc bal k run :: zHp F L must rc bal n (zNx F L must rc bal k run) (zRn F (zNx F L must rc bal k run) run)
/-- the way: the places of its landings; none where there is no way -/
def zWl (F : Nat → Int) (L must rc bal : Nat) : List Nat := if zV F L must rc bal 0 0 < 1000000 then zHp F L must rc bal (L + 1) 0 0 else []
def zWc (F : Nat → Int) (L must rc bal : Nat) : Int := if zV F L must rc bal 0 0 < 1000000 then zV F L must rc bal 0 0 else -1
theorem zNx_spec {k run : Nat} (hk : k < L) (hV : zV F L must rc bal k run < 1000000) :
    k < zNx F L must rc bal k run ∧ zNx F L must rc bal k run ≤ k + rc ∧ zOk F L must bal k (zNx F L must rc bal k run) run ∧ zV F L must rc bal (zNx F L must rc bal k run) (zRn F (zNx F L must rc bal k run) run) < 1000000 ∧
    zBy F L must bal (zV F L must rc bal) k run (zNx F L must rc bal k run) = zV F L must rc bal k run ∧ ∀ to, k < to → to < zNx F L must rc bal k run → zBy F L must bal (zV F L must rc bal) k run to ≠ zV F L must rc bal k run := by
  have e := zV_eq (F := F) (L := L) (must := must) (rc := rc) (bal := bal) hk run
  rw [e] at hV
  obtain ⟨g1, g2, g3, g4⟩ := zAg_spec _ _ hV
  rw [← e] at g3 g4 hV
  have hd : zNx F L must rc bal k run = k + zAg (fun j => zBy F L must bal (zV F L must rc bal) k run (k + j)) rc := rfl
  rw [← hd] at g3
  have hok : zOk F L must bal k (zNx F L must rc bal k run) run := by
    by_cases z : zOk F L must bal k (zNx F L must rc bal k run) run
    · exact z
    · rw [zBy, if_neg z] at g3; omega
  refine ⟨by omega, by omega, hok, ?_, g3, fun to h1 h2 => ?_⟩
  · rw [zBy, if_pos hok] at g3
    have h2 : 0 ≤ (((zNx F L must rc bal k run : Nat) : Int) - k) * (((zNx F L must rc bal k run : Nat) : Int) - k) := Int.mul_nonneg (by omega) (by omega)
    omega
  · have := g4 (to - k) (by omega) (by omega)
    rw [show k + (to - k) = to by omega] at this
    exact this
end WY
