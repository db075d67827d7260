def cN (P : Nat → Bool) : Nat → Nat
  | 0 => 0
  | n + 1 => cN P n + (if P (n + 1) = true then 1 else 0)
theorem zBits_s (P : Nat → Bool) (n k : Nat) : zBits (zSet P n) (k + 1) = zBits (zSet P n) k + (if (1 ≤ k ∧ k ≤ n) ∧ P k = true then 1 else 0) := by
  show zBits (zSet P n) k + zSet P n / 2 ^ k % 2 = _
  have h := zSet_bit P n k
  rw [Nat.testBit_eq_decide_div_mod_eq] at h
  congr 1
  by_cases q : (1 ≤ k ∧ k ≤ n) ∧ P k = true
  · rw [if_pos q]
    rw [decide_eq_true q.1, q.2] at h
    exact of_decide_eq_true h
  · rw [if_neg q]
    have h2 : ¬ zSet P n / 2 ^ k % 2 = 1 := fun z => by
      rw [decide_eq_true z] at h
      have h3 := h.symm
      rw [Bool.and_eq_true, decide_eq_true_eq] at h3
      exact q h3
    omega
theorem zBits_c (P : Nat → Bool) (n : Nat) : ∀ k : Nat, k ≤ n → zBits (zSet P n) (k + 1) = cN P k := by
  intro k
  induction k with
  | zero => intro _; rw [zBits_s, if_neg (by omega)]; rfl
  | succ k ih =>
    intro hk
    rw [zBits_s, ih (by omega)]
    show cN P k + _ = cN P k + _
    by_cases q : P (k + 1) = true
    · rw [if_pos ⟨by omega, q⟩, if_pos q]
    · rw [if_neg (fun z => q z.2), if_neg q]
theorem zBits_e (P : Nat → Bool) (n : Nat) : ∀ m : Nat, zBits (zSet P n) (n + 1 + m) = cN P n := by
  intro m
  induction m with
  | zero => exact zBits_c P n n (Nat.le_refl _)
  | succ m ih => rw [show n + 1 + (m + 1) = (n + 1 + m) + 1 by omega, zBits_s, if_neg (by omega), ih]; rfl
theorem aNown_c {a : Int → Int} {q : Int} (h0 : 0 ≤ a 1) (h : a 1 ≤ 20) : aNown a q = cN (fun s => decide (aO a s = q)) (a 1).toNat := by
  have h9 := zBits_e (fun s => decide (aO a s = q)) (a 1).toNat (20 - (a 1).toNat)
  rw [show (a 1).toNat + 1 + (20 - (a 1).toNat) = 21 by omega] at h9
  exact h9
def aAllN (a : Int → Int) : Nat → Nat
  | 0 => 0
  | q + 1 => aAllN a q + aNown a q
theorem cN_all {a : Int → Int} {m : Nat} : ∀ n : Nat, (∀ s : Int, 1 ≤ s → s ≤ n → -1 ≤ aO a s ∧ aO a s < m) → (List.range m).foldr (fun (q : Nat) (r : Nat) => cN (fun s => decide (aO a s = (q : Int))) n + r) 0 + cN (fun s => decide (aO a s = -1)) n = n := by
  intro n
  induction n with
  | zero =>
    intro _
    have : ∀ l : List Nat, l.foldr (fun (q : Nat) (r : Nat) => cN (fun s => decide (aO a s = (q : Int))) 0 + r) 0 = 0 := by
      intro l
      induction l with
      | nil => rfl
      | cons x l ih => show 0 + _ = 0; rw [ih]
    rw [this]; rfl
  | succ n ih =>
    intro h
    have ih := ih (fun s g1 g2 => h s g1 (by omega))
    have hs := h ((n + 1 : Nat) : Int) (by omega) (by omega)
    have key : ∀ l : List Nat, l.Nodup → l.foldr (fun (q : Nat) (r : Nat) => cN (fun s => decide (aO a s = (q : Int))) (n + 1) + r) 0 = l.foldr (fun (q : Nat) (r : Nat) => cN (fun s => decide (aO a s = (q : Int))) n + r) 0 + (if ∃ q ∈ l, aO a ((n + 1 : Nat) : Int) = (q : Int) then 1 else 0) := by
      intro l
      induction l with
      | nil => intro _; rw [if_neg (fun ⟨q, hq, _⟩ => by cases hq)]; rfl
      | cons x l ihl =>
        intro hn
        have hn2 := List.nodup_cons.mp hn
        show cN _ n + (if decide (aO a ((n + 1 : Nat) : Int) = (x : Int)) = true then 1 else 0) + _ = cN _ n + _ + _
        rw [ihl hn2.2]
        by_cases e : aO a ((n + 1 : Nat) : Int) = (x : Int)
        · rw [if_pos (decide_eq_true e), if_neg (fun ⟨q, hq, e2⟩ => hn2.1 (by rw [show x = q by omega]; exact hq)), if_pos ⟨x, List.mem_cons_self, e⟩]; omega
        · rw [if_neg (fun z => e (of_decide_eq_true z))]
          by_cases y : ∃ q ∈ l, aO a ((n + 1 : Nat) : Int) = (q : Int)
          · rw [if_pos y, if_pos (by obtain ⟨q, hq, e2⟩ := y; exact ⟨q, List.mem_cons_of_mem _ hq, e2⟩)]; omega
          · rw [if_neg y, if_neg (fun ⟨q, hq, e2⟩ => by
              rcases List.mem_cons.mp hq with rfl | hq
              · exact e e2
              · exact y ⟨q, hq, e2⟩)]; omega
    rw [key _ List.nodup_range]
    show _ + _ + (cN _ n + (if decide (aO a ((n + 1 : Nat) : Int) = -1) = true then 1 else 0)) = n + 1
    by_cases e : aO a ((n + 1 : Nat) : Int) = -1
    · rw [if_pos (decide_eq_true e), if_neg (fun ⟨q, hq, e2⟩ => by omega)]; omega
    · rw [if_neg (fun z => e (of_decide_eq_true z)), if_pos ⟨(aO a ((n + 1 : Nat) : Int)).toNat, List.mem_range.mpr (by omega), by omega⟩]; omega
theorem dX7_bits_0 : decode cX7_bits 0 = .ok (.iconst 0, 1) := by decide +kernel
theorem dX7_bits_1 : decode cX7_bits 1 = .ok (.istore_n 1, 1) := by decide +kernel
theorem dX7_bits_2 : decode cX7_bits 2 = .ok (.iconst 0, 1) := by decide +kernel
theorem dX7_bits_3 : decode cX7_bits 3 = .ok (.istore_n 2, 1) := by decide +kernel
theorem dX7_bits_4 : decode cX7_bits 4 = .ok (.iload_n 2, 1) := by decide +kernel
theorem dX7_bits_5 : decode cX7_bits 5 = .ok (.bipush 21, 2) := by decide +kernel
theorem dX7_bits_7 : decode cX7_bits 7 = .ok (.if_icmp .ge 17, 3) := by decide +kernel
theorem dX7_bits_10 : decode cX7_bits 10 = .ok (.iload_n 1, 1) := by decide +kernel
theorem dX7_bits_11 : decode cX7_bits 11 = .ok (.iload_n 0, 1) := by decide +kernel
theorem dX7_bits_12 : decode cX7_bits 12 = .ok (.iload_n 2, 1) := by decide +kernel
theorem dX7_bits_13 : decode cX7_bits 13 = .ok (.ishr, 1) := by decide +kernel
theorem dX7_bits_14 : decode cX7_bits 14 = .ok (.iconst 1, 1) := by decide +kernel
theorem dX7_bits_15 : decode cX7_bits 15 = .ok (.iand, 1) := by decide +kernel
theorem dX7_bits_16 : decode cX7_bits 16 = .ok (.iadd, 1) := by decide +kernel
theorem dX7_bits_17 : decode cX7_bits 17 = .ok (.istore_n 1, 1) := by decide +kernel
theorem dX7_bits_18 : decode cX7_bits 18 = .ok (.iinc 2 1, 3) := by decide +kernel
theorem dX7_bits_21 : decode cX7_bits 21 = .ok (.goto (-17), 3) := by decide +kernel
theorem dX7_bits_24 : decode cX7_bits 24 = .ok (.iload_n 1, 1) := by decide +kernel
theorem dX7_bits_25 : decode cX7_bits 25 = .ok (.ireturn, 1) := by decide +kernel
theorem eX7_bits {W : zWd} {x : Nat} {Q : Option Value → zWd → Prop} {X : zX} (hx : x < 2097152) (hq : Q (some (zI (zBits x 21 : Nat))) W) : Ev MX7_bits 0 0 W [zI (x : Int)] Q X := by
  refine ev_of (ls := [zI (x : Int), .null, .null]) (by decide) rfl (fun _ => rfl) (fun _ => Nat.le_of_ble_eq_true rfl) (Or.inl rfl) ?_
  have loop : ∀ (n : Nat) (k : Nat), k ≤ 21 → 21 - k < n → RR MX7_bits 0 0 W 4 [zI (x : Int), zI (zBits x k : Nat), zI (k : Int)] [] (zEnd MX7_bits Q X) X := by
    intro n
    induction n with
    | zero => intro k _ hm9; omega
    | succ n ih =>
      intro k hk hm9
      refine rr_iload_n (pc := 4) dX7_bits_4 rfl ?_
      refine rr_bipush (n := (21)) dX7_bits_5 ?_
      refine rr_icmp_ge (pc := 7) (tgt := 24) dX7_bits_7 (by decide) (by unfold zR; omega) (by unfold zR; omega) (fun h7 => ?_) (fun h7 => ?_)
      · refine rr_iload_n (pc := 24) dX7_bits_24 rfl ?_
        exact rr_reti (pc := 25) dX7_bits_25 rfl rfl (by rw [show k = 21 by omega]) rfl (hq)
      · refine rr_iload_n (pc := 10) dX7_bits_10 rfl ?_
        refine rr_iload_n (pc := 11) dX7_bits_11 rfl ?_
        refine rr_iload_n (pc := 12) dX7_bits_12 rfl ?_
        refine rr_ishr (pc := 13) dX7_bits_13 (by unfold zR; omega) (by omega) (by omega) ?_
        refine rr_iconst (n := 1) dX7_bits_14 ?_
        refine rr_iandm (pc := 15) 1 dX7_bits_15 (by decide) rfl ?_
        refine rr_iadd (pc := 16) dX7_bits_16 ?_
        refine rr_istore_n (pc := 17) dX7_bits_17 (by decide) ?_
        refine rr_iinc (pc := 18) dX7_bits_18 rfl (by decide) ?_
        refine rr_goto (pc := 21) (tgt := 4) dX7_bits_21 (by decide) ?_
        refine rr_eqL ?_ (ih (k + 1) (by omega) (by omega))
        have e9 : ((zBits x k : Nat) : Int) + (x : Int) / 2 ^ ((k : Int)).toNat % 2 ^ 1 = ((zBits x (k + 1) : Nat) : Int) := by
          show _ = ((zBits x k + x / 2 ^ k % 2 : Nat) : Int)
          rw [Int.toNat_natCast, Int.natCast_add, Int.natCast_emod, Int.natCast_ediv, Int.natCast_pow]; rfl
        rw [← e9, show ((k + 1 : Nat) : Int) = (k : Int) + 1 by omega]
        rfl
  refine rr_iconst (n := 0) dX7_bits_0 ?_
  refine rr_istore_n (pc := 1) dX7_bits_1 (by decide) ?_
  refine rr_iconst (n := 0) dX7_bits_2 ?_
  refine rr_istore_n (pc := 3) dX7_bits_3 (by decide) ?_
  exact loop _ 0 (by omega) (Nat.lt_succ_self _)
