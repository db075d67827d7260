theorem dX7_isMarked_0 : decode cX7_isMarked 0 = .ok (.iconst 0, 1) := by decide +kernel
theorem dX7_isMarked_1 : decode cX7_isMarked 1 = .ok (.istore_n 3, 1) := by decide +kernel
theorem dX7_isMarked_2 : decode cX7_isMarked 2 = .ok (.iload_n 3, 1) := by decide +kernel
theorem dX7_isMarked_3 : decode cX7_isMarked 3 = .ok (.aload_n 0, 1) := by decide +kernel
theorem dX7_isMarked_4 : decode cX7_isMarked 4 = .ok (.invokevirtual 203, 3) := by decide +kernel
theorem dX7_isMarked_7 : decode cX7_isMarked 7 = .ok (.if_icmp .ge 26, 3) := by decide +kernel
theorem dX7_isMarked_10 : decode cX7_isMarked 10 = .ok (.iload_n 3, 1) := by decide +kernel
theorem dX7_isMarked_11 : decode cX7_isMarked 11 = .ok (.iload_n 1, 1) := by decide +kernel
theorem dX7_isMarked_12 : decode cX7_isMarked 12 = .ok (.if_icmp .eq 15, 3) := by decide +kernel
theorem dX7_isMarked_15 : decode cX7_isMarked 15 = .ok (.aload_n 0, 1) := by decide +kernel
theorem dX7_isMarked_16 : decode cX7_isMarked 16 = .ok (.iload_n 3, 1) := by decide +kernel
theorem dX7_isMarked_17 : decode cX7_isMarked 17 = .ok (.iconst 5, 1) := by decide +kernel
theorem dX7_isMarked_18 : decode cX7_isMarked 18 = .ok (.invokevirtual 154, 3) := by decide +kernel
theorem dX7_isMarked_21 : decode cX7_isMarked 21 = .ok (.iload_n 2, 1) := by decide +kernel
theorem dX7_isMarked_22 : decode cX7_isMarked 22 = .ok (.if_icmp .ne 5, 3) := by decide +kernel
theorem dX7_isMarked_25 : decode cX7_isMarked 25 = .ok (.iconst 1, 1) := by decide +kernel
theorem dX7_isMarked_26 : decode cX7_isMarked 26 = .ok (.ireturn, 1) := by decide +kernel
theorem dX7_isMarked_27 : decode cX7_isMarked 27 = .ok (.iinc 3 1, 3) := by decide +kernel
theorem dX7_isMarked_30 : decode cX7_isMarked 30 = .ok (.goto (-28), 3) := by decide +kernel
theorem dX7_isMarked_33 : decode cX7_isMarked 33 = .ok (.iconst 0, 1) := by decide +kernel
theorem dX7_isMarked_34 : decode cX7_isMarked 34 = .ok (.ireturn, 1) := by decide +kernel
theorem eX7_isMarked {W : zWd} {a : Int → Int} {T : Int} {p s : Int} {Q : Option Value → zWd → Prop} {X : zX} (ha : W 117 = a) (hw : zWf T a) (h0 : 1 ≤ s) (hs1 : s ≤ a 1) (hz : zR p) (hq : Q (some (zI (if (zMks a p (a 2).toNat).testBit s.toNat = true then 1 else 0))) W) : Ev MX7_isMarked 1 0 W [.ref 116, zI p, zI s] Q X := by
  refine ev_of (ls := [.ref 116, zI p, zI s, .null]) (by decide) rfl (fun _ => rfl) (fun _ => Nat.le_of_ble_eq_true rfl) (Or.inl rfl) ?_
  subst ha
  obtain ⟨w0, w0', wW, w1, w2, w2', w3, w3', w4, w4', w5, w5', w6, w6', w7, w7', wS, wP, wT⟩ := id hw
  have wq := zWf.sq hw
  have h5 : ∀ q : Int, 0 ≤ q → q < ((W 117 2).toNat : Int) → 0 ≤ aP (W 117) q 5 := fun q g0 g1 => by
    have hm2 := wP q g0 (by omega)
    unfold zWfP at hm2; omega
  have hbit := zMks_bit (a := W 117) (w := p) (W 117 2).toNat h5 s.toNat
  have loop : ∀ (n : Nat) (i : Int), 0 ≤ i → i ≤ W 117 2 → (∀ q : Int, 0 ≤ q → q < i → q ≠ p → aP (W 117) q 5 ≠ s) → (W 117 2 - i).toNat < n → RR MX7_isMarked 1 0 W 2 [.ref 116, zI p, zI s, zI i] [] (zEnd MX7_isMarked Q X) X := by
    intro n
    induction n with
    | zero => intro i _ _ _ hm9; omega
    | succ n ih =>
      intro i h1 h2 hS hm9
      refine rr_iload_n (pc := 2) dX7_isMarked_2 rfl ?_
      refine rr_aload_n (pc := 3) dX7_isMarked_3 rfl ?_
      refine rr_inv0 (M' := MX7_players) (k := 116) (As := []) (pc := 4) dX7_isMarked_4 lX7_203 kX7_players vX7_players zk_116 (by decide) rfl (by decide) (by decide) (Nat.le_of_ble_eq_true rfl) rfl (eX7_players ?_)
      refine rr_icmp_ge (pc := 7) (tgt := 33) dX7_isMarked_7 (by decide) (by unfold zR; omega) (by unfold zR; omega) (fun h7 => ?_) (fun h7 => ?_)
      · refine rr_iconst (n := 0) dX7_isMarked_33 ?_
        have hb : ¬ (zMks (W 117) p (W 117 2).toNat).testBit s.toNat = true := fun z => by
          obtain ⟨q, g0, g1, g2, g3, g4⟩ := hbit.mp z
          exact hS q g0 (by omega) g2 (by omega)
        exact rr_reti (pc := 34) dX7_isMarked_34 rfl rfl (if_neg hb).symm rfl (hq)
      · refine rr_iload_n (pc := 10) dX7_isMarked_10 rfl ?_
        refine rr_iload_n (pc := 11) dX7_isMarked_11 rfl ?_
        refine rr_icmp_eq (pc := 12) (tgt := 27) dX7_isMarked_12 (by decide) (by unfold zR; omega) hz (fun h12 => ?_) (fun h12 => ?_)
        · refine rr_iinc (pc := 27) dX7_isMarked_27 rfl (by decide) ?_
          refine rr_goto (pc := 30) (tgt := 2) dX7_isMarked_30 (by decide) ?_
          refine ih (i + 1) (by omega) (by omega) (fun q g1 g2 g3 => ?_) (by omega)
          by_cases z : q = i
          · subst z; exact absurd h12 g3
          · exact hS q g1 (by omega) g3
        · refine rr_aload_n (pc := 15) dX7_isMarked_15 rfl ?_
          refine rr_iload_n (pc := 16) dX7_isMarked_16 rfl ?_
          refine rr_iconst (n := 5) dX7_isMarked_17 ?_
          have hm2 := wP i h1 (by omega)
          unfold zWfP at hm2
          refine rr_inv0 (M' := MX7_of) (k := 116) (As := [_, _]) (pc := 18) dX7_isMarked_18 lX7_154 kX7_of vX7_of zk_116 (by decide) rfl (by decide) (by decide) (Nat.le_of_ble_eq_true rfl) rfl (eX7_of (by omega) (by omega) (by omega) (by omega) ?_)
          refine rr_iload_n (pc := 21) dX7_isMarked_21 rfl ?_
          refine rr_icmp_ne (pc := 22) (tgt := 27) dX7_isMarked_22 (by decide) (by unfold zR; omega) (by unfold zR; omega) (fun h22 => ?_) (fun h22 => ?_)
          · refine rr_iinc (pc := 27) dX7_isMarked_27 rfl (by decide) ?_
            refine rr_goto (pc := 30) (tgt := 2) dX7_isMarked_30 (by decide) ?_
            refine ih (i + 1) (by omega) (by omega) (fun q g1 g2 g3 => ?_) (by omega)
            by_cases z : q = i
            · subst z; exact h22
            · exact hS q g1 (by omega) g3
          · refine rr_iconst (n := 1) dX7_isMarked_25 ?_
            have hb : (zMks (W 117) p (W 117 2).toNat).testBit s.toNat = true := hbit.mpr ⟨i, h1, by omega, h12, by omega, by omega⟩
            exact rr_reti (pc := 26) dX7_isMarked_26 rfl rfl (if_pos hb).symm rfl (hq)
  refine rr_iconst (n := 0) dX7_isMarked_0 ?_
  refine rr_istore_n (pc := 1) dX7_isMarked_1 (by decide) ?_
  exact loop _ 0 (by omega) (by omega) (fun q g1 g2 => by omega) (Nat.lt_succ_self _)
theorem aUse_iff {a : Int → Int} {q own : Int} {s : Int} (h : 0 ≤ s) : aUse a q own s.toNat = true ↔ s ≠ own ∧ ¬ aForb a q s ∧ ¬ (zMks a q (a 2).toNat).testBit s.toNat = true := by
  unfold aUse
  rw [Bool.and_eq_true, Bool.and_eq_true, decide_eq_true_eq, decide_eq_true_eq, Bool.not_eq_true', show ((s.toNat : Nat) : Int) = s by omega, Bool.not_eq_true]
  exact and_assoc
theorem dX7_isUsable_0 : decode cX7_isUsable 0 = .ok (.iload_n 2, 1) := by decide +kernel
theorem dX7_isUsable_1 : decode cX7_isUsable 1 = .ok (.iload_n 3, 1) := by decide +kernel
theorem dX7_isUsable_2 : decode cX7_isUsable 2 = .ok (.if_icmp .eq 25, 3) := by decide +kernel
theorem dX7_isUsable_5 : decode cX7_isUsable 5 = .ok (.aload_n 0, 1) := by decide +kernel
theorem dX7_isUsable_6 : decode cX7_isUsable 6 = .ok (.iload_n 1, 1) := by decide +kernel
theorem dX7_isUsable_7 : decode cX7_isUsable 7 = .ok (.iload_n 2, 1) := by decide +kernel
theorem dX7_isUsable_8 : decode cX7_isUsable 8 = .ok (.invokevirtual 215, 3) := by decide +kernel
theorem dX7_isUsable_11 : decode cX7_isUsable 11 = .ok (.ifCond .ne 16, 3) := by decide +kernel
theorem dX7_isUsable_14 : decode cX7_isUsable 14 = .ok (.aload_n 0, 1) := by decide +kernel
theorem dX7_isUsable_15 : decode cX7_isUsable 15 = .ok (.iload_n 1, 1) := by decide +kernel
theorem dX7_isUsable_16 : decode cX7_isUsable 16 = .ok (.iload_n 2, 1) := by decide +kernel
theorem dX7_isUsable_17 : decode cX7_isUsable 17 = .ok (.invokevirtual 225, 3) := by decide +kernel
theorem dX7_isUsable_20 : decode cX7_isUsable 20 = .ok (.ifCond .ne 7, 3) := by decide +kernel
theorem dX7_isUsable_23 : decode cX7_isUsable 23 = .ok (.iconst 1, 1) := by decide +kernel
theorem dX7_isUsable_24 : decode cX7_isUsable 24 = .ok (.goto 4, 3) := by decide +kernel
theorem dX7_isUsable_27 : decode cX7_isUsable 27 = .ok (.iconst 0, 1) := by decide +kernel
theorem dX7_isUsable_28 : decode cX7_isUsable 28 = .ok (.ireturn, 1) := by decide +kernel
theorem eX7_isUsable {W : zWd} {a : Int → Int} {T : Int} {p s own : Int} {Q : Option Value → zWd → Prop} {X : zX} (ha : W 117 = a) (hw : zWf T a) (h0 : 1 ≤ s) (hs1 : s ≤ a 1) (hz : zR p) (ho : zR own) (hq : Q (some (zI (if aUse a p own s.toNat = true then 1 else 0))) W) : Ev MX7_isUsable 2 0 W [.ref 116, zI p, zI s, zI own] Q X := by
  refine ev_of (ls := [.ref 116, zI p, zI s, zI own]) (by decide) rfl (fun _ => rfl) (fun _ => Nat.le_of_ble_eq_true rfl) (Or.inl rfl) ?_
  subst ha
  obtain ⟨w0, w0', wW, w1, w2, w2', w3, w3', w4, w4', w5, w5', w6, w6', w7, w7', wS, wP, wT⟩ := id hw
  have wq := zWf.sq hw
  have hu := @aUse_iff (W 117) p own s (by omega)
  refine rr_iload_n (pc := 0) dX7_isUsable_0 rfl ?_
  refine rr_iload_n (pc := 1) dX7_isUsable_1 rfl ?_
  refine rr_icmp_eq (pc := 2) (tgt := 27) dX7_isUsable_2 (by decide) (by unfold zR; omega) ho (fun h2 => ?_) (fun h2 => ?_)
  · refine rr_iconst (n := 0) dX7_isUsable_27 ?_
    exact rr_reti (pc := 28) dX7_isUsable_28 rfl rfl (if_neg (fun z => (hu.mp z).1 h2)).symm rfl (hq)
  · refine rr_aload_n (pc := 5) dX7_isUsable_5 rfl ?_
    refine rr_iload_n (pc := 6) dX7_isUsable_6 rfl ?_
    refine rr_iload_n (pc := 7) dX7_isUsable_7 rfl ?_
    refine rr_inv0 (M' := MX7_isForbidden) (k := 116) (As := [_, _]) (pc := 8) dX7_isUsable_8 lX7_215 kX7_isForbidden vX7_isForbidden zk_116 (by decide) rfl (by decide) (by decide) (Nat.le_of_ble_eq_true rfl) rfl (eX7_isForbidden rfl hw h0 hs1 hz ?_)
    refine rr_if_ne (pc := 11) (tgt := 27) dX7_isUsable_11 (by decide) (by split <;> (unfold zR; omega)) (fun h11 => ?_) (fun h11 => ?_)
    · refine rr_iconst (n := 0) dX7_isUsable_27 ?_
      exact rr_reti (pc := 28) dX7_isUsable_28 rfl rfl (if_neg (fun z => (hu.mp z).2.1 (z_i10n h11))).symm rfl (hq)
    · refine rr_aload_n (pc := 14) dX7_isUsable_14 rfl ?_
      refine rr_iload_n (pc := 15) dX7_isUsable_15 rfl ?_
      refine rr_iload_n (pc := 16) dX7_isUsable_16 rfl ?_
      refine rr_inv0 (M' := MX7_isMarked) (k := 116) (As := [_, _]) (pc := 17) dX7_isUsable_17 lX7_225 kX7_isMarked vX7_isMarked zk_116 (by decide) rfl (by decide) (by decide) (Nat.le_of_ble_eq_true rfl) rfl (eX7_isMarked rfl hw h0 hs1 hz ?_)
      refine rr_if_ne (pc := 20) (tgt := 27) dX7_isUsable_20 (by decide) (by split <;> (unfold zR; omega)) (fun h20 => ?_) (fun h20 => ?_)
      · refine rr_iconst (n := 0) dX7_isUsable_27 ?_
        exact rr_reti (pc := 28) dX7_isUsable_28 rfl rfl (if_neg (fun z => (hu.mp z).2.2 (z_i10n h20))).symm rfl (hq)
      · refine rr_iconst (n := 1) dX7_isUsable_23 ?_
        refine rr_goto (pc := 24) (tgt := 28) dX7_isUsable_24 (by decide) ?_
        exact rr_reti (pc := 28) dX7_isUsable_28 rfl rfl (if_pos (hu.mpr ⟨h2, z_i10 (by omega), z_i10 (by omega)⟩)).symm rfl (hq)
def nFt (u : Nat → Bool) (f : Nat) : Nat → Int
  | 0 => 0
  | k + 1 => nFt u f k + (if u (f + k) = true then 1 else 0)
def oFt (u o : Nat → Bool) (f : Nat) : Nat → Int
  | 0 => 0
  | k + 1 => if u (f + k) = true ∧ o (f + k) = true then 1 else oFt u o f k
theorem nFt_y {u : Nat → Bool} {f k : Nat} (h : u (f + k) = true) : nFt u f (k + 1) = nFt u f k + 1 := by show nFt u f k + _ = _; rw [if_pos h]
theorem nFt_n {u : Nat → Bool} {f k : Nat} (h : ¬ u (f + k) = true) : nFt u f (k + 1) = nFt u f k := by show nFt u f k + _ = _; rw [if_neg h, Int.add_zero]
theorem zFo_n {u o : Nat → Bool} {f : Nat} {w : Nat} (h : w = 1 ∨ w = 2) : zFo f w u o = if nFt u f w = 0 then 0 else if nFt u f w = 2 ∨ oFt u o f w = 1 then 2 else 1 := by
  unfold zFo
  rcases h with rfl | rfl
  · cases hu : u f <;> cases ho : o f <;> simp [nFt, oFt, hu, ho]
  · cases hu : u f <;> cases ho : o f <;> cases hu2 : u (f + 1) <;> cases ho2 : o (f + 1) <;> simp [nFt, oFt, hu, ho, hu2, ho2]
theorem nFt_rng {u o : Nat → Bool} {f : Nat} : ∀ k : Nat, 0 ≤ nFt u f k ∧ nFt u f k ≤ k ∧ (oFt u o f k = 0 ∨ oFt u o f k = 1) := by
  intro k
  induction k with
  | zero => exact ⟨Int.le_refl _, Int.le_refl _, Or.inl rfl⟩
  | succ k ih =>
    unfold nFt oFt
    refine ⟨by split <;> omega, by split <;> omega, ?_⟩
    split
    · exact Or.inr rfl
    · exact ih.2.2
theorem dX7_footingOf_0 : decode cX7_footingOf 0 = .ok (.aload_n 0, 1) := by decide +kernel
theorem dX7_footingOf_1 : decode cX7_footingOf 1 = .ok (.iload_n 2, 1) := by decide +kernel
theorem dX7_footingOf_2 : decode cX7_footingOf 2 = .ok (.invokevirtual 212, 3) := by decide +kernel
theorem dX7_footingOf_5 : decode cX7_footingOf 5 = .ok (.istore 4, 2) := by decide +kernel
theorem dX7_footingOf_7 : decode cX7_footingOf 7 = .ok (.iconst 0, 1) := by decide +kernel
theorem dX7_footingOf_8 : decode cX7_footingOf 8 = .ok (.istore 5, 2) := by decide +kernel
theorem dX7_footingOf_10 : decode cX7_footingOf 10 = .ok (.iconst 0, 1) := by decide +kernel
theorem dX7_footingOf_11 : decode cX7_footingOf 11 = .ok (.istore 6, 2) := by decide +kernel
theorem dX7_footingOf_13 : decode cX7_footingOf 13 = .ok (.iload 4, 2) := by decide +kernel
theorem dX7_footingOf_15 : decode cX7_footingOf 15 = .ok (.istore 7, 2) := by decide +kernel
theorem dX7_footingOf_17 : decode cX7_footingOf 17 = .ok (.iload 7, 2) := by decide +kernel
theorem dX7_footingOf_19 : decode cX7_footingOf 19 = .ok (.iload 4, 2) := by decide +kernel
theorem dX7_footingOf_21 : decode cX7_footingOf 21 = .ok (.aload_n 0, 1) := by decide +kernel
theorem dX7_footingOf_22 : decode cX7_footingOf 22 = .ok (.getfield 7, 3) := by decide +kernel
theorem dX7_footingOf_25 : decode cX7_footingOf 25 = .ok (.bipush 8, 2) := by decide +kernel
theorem dX7_footingOf_27 : decode cX7_footingOf 27 = .ok (.iload_n 2, 1) := by decide +kernel
theorem dX7_footingOf_28 : decode cX7_footingOf 28 = .ok (.iadd, 1) := by decide +kernel
theorem dX7_footingOf_29 : decode cX7_footingOf 29 = .ok (.iaload, 1) := by decide +kernel
theorem dX7_footingOf_30 : decode cX7_footingOf 30 = .ok (.iadd, 1) := by decide +kernel
theorem dX7_footingOf_31 : decode cX7_footingOf 31 = .ok (.if_icmp .ge 48, 3) := by decide +kernel
theorem dX7_footingOf_34 : decode cX7_footingOf 34 = .ok (.aload_n 0, 1) := by decide +kernel
theorem dX7_footingOf_35 : decode cX7_footingOf 35 = .ok (.iload_n 1, 1) := by decide +kernel
theorem dX7_footingOf_36 : decode cX7_footingOf 36 = .ok (.iload 7, 2) := by decide +kernel
theorem dX7_footingOf_38 : decode cX7_footingOf 38 = .ok (.iload_n 3, 1) := by decide +kernel
theorem dX7_footingOf_39 : decode cX7_footingOf 39 = .ok (.invokevirtual 228, 3) := by decide +kernel
theorem dX7_footingOf_42 : decode cX7_footingOf 42 = .ok (.ifCond .ne 6, 3) := by decide +kernel
theorem dX7_footingOf_45 : decode cX7_footingOf 45 = .ok (.goto 28, 3) := by decide +kernel
theorem dX7_footingOf_48 : decode cX7_footingOf 48 = .ok (.iinc 5 1, 3) := by decide +kernel
theorem dX7_footingOf_51 : decode cX7_footingOf 51 = .ok (.iload 6, 2) := by decide +kernel
theorem dX7_footingOf_53 : decode cX7_footingOf 53 = .ok (.ifCond .ne 13, 3) := by decide +kernel
theorem dX7_footingOf_56 : decode cX7_footingOf 56 = .ok (.aload_n 0, 1) := by decide +kernel
theorem dX7_footingOf_57 : decode cX7_footingOf 57 = .ok (.iload 7, 2) := by decide +kernel
theorem dX7_footingOf_59 : decode cX7_footingOf 59 = .ok (.invokevirtual 187, 3) := by decide +kernel
theorem dX7_footingOf_62 : decode cX7_footingOf 62 = .ok (.iload_n 1, 1) := by decide +kernel
theorem dX7_footingOf_63 : decode cX7_footingOf 63 = .ok (.if_icmp .ne 7, 3) := by decide +kernel
theorem dX7_footingOf_66 : decode cX7_footingOf 66 = .ok (.iconst 1, 1) := by decide +kernel
theorem dX7_footingOf_67 : decode cX7_footingOf 67 = .ok (.goto 4, 3) := by decide +kernel
theorem dX7_footingOf_70 : decode cX7_footingOf 70 = .ok (.iconst 0, 1) := by decide +kernel
theorem dX7_footingOf_71 : decode cX7_footingOf 71 = .ok (.istore 6, 2) := by decide +kernel
theorem dX7_footingOf_73 : decode cX7_footingOf 73 = .ok (.iinc 7 1, 3) := by decide +kernel
theorem dX7_footingOf_76 : decode cX7_footingOf 76 = .ok (.goto (-59), 3) := by decide +kernel
theorem dX7_footingOf_79 : decode cX7_footingOf 79 = .ok (.iload 5, 2) := by decide +kernel
theorem dX7_footingOf_81 : decode cX7_footingOf 81 = .ok (.ifCond .ne 7, 3) := by decide +kernel
theorem dX7_footingOf_84 : decode cX7_footingOf 84 = .ok (.iconst 0, 1) := by decide +kernel
theorem dX7_footingOf_85 : decode cX7_footingOf 85 = .ok (.goto 19, 3) := by decide +kernel
theorem dX7_footingOf_88 : decode cX7_footingOf 88 = .ok (.iload 5, 2) := by decide +kernel
theorem dX7_footingOf_90 : decode cX7_footingOf 90 = .ok (.iconst 2, 1) := by decide +kernel
theorem dX7_footingOf_91 : decode cX7_footingOf 91 = .ok (.if_icmp .eq 8, 3) := by decide +kernel
theorem dX7_footingOf_94 : decode cX7_footingOf 94 = .ok (.iload 6, 2) := by decide +kernel
theorem dX7_footingOf_96 : decode cX7_footingOf 96 = .ok (.ifCond .eq 7, 3) := by decide +kernel
theorem dX7_footingOf_99 : decode cX7_footingOf 99 = .ok (.iconst 2, 1) := by decide +kernel
theorem dX7_footingOf_100 : decode cX7_footingOf 100 = .ok (.goto 4, 3) := by decide +kernel
theorem dX7_footingOf_103 : decode cX7_footingOf 103 = .ok (.iconst 1, 1) := by decide +kernel
theorem dX7_footingOf_104 : decode cX7_footingOf 104 = .ok (.ireturn, 1) := by decide +kernel
theorem eX7_footingOf {W : zWd} {a : Int → Int} {T : Int} {p r own : Int} {Q : Option Value → zWd → Prop} {X : zX} (ha : W 117 = a) (hw : zWf T a) (h0 : 0 ≤ r) (h1 : r < a 0) (hz : zR p) (ho : zR own) (hq : Q (some (zI (zFo (aF a r.toNat).toNat (a (8 + r)) (aUse a p own) (fun i => decide (aO a i = p))))) W) : Ev MX7_footingOf 3 0 W [.ref 116, zI p, zI r, zI own] Q X := by
  refine ev_of (ls := [.ref 116, zI p, zI r, zI own, .null, .null, .null, .null]) (by decide) rfl (fun _ => rfl) (fun _ => Nat.le_of_ble_eq_true rfl) (Or.inl rfl) ?_
  subst ha
  obtain ⟨w0, w0', wW, w1, w2, w2', w3, w3', w4, w4', w5, w5', w6, w6', w7, w7', wS, wP, wT⟩ := id hw
  have wq := zWf.sq hw
  have hww := wW r h0 h1
  have hri := aRow_in hw h0 h1
  have hfl := aF_lo hw (r := r.toNat) (by omega)
  have loop : ∀ (n : Nat) (k : Nat), (k : Int) ≤ W 117 (8 + r) → (W 117 (8 + r)).toNat - k < n → RR MX7_footingOf 3 0 W 17 [.ref 116, zI p, zI r, zI own, zI (aF (W 117) r.toNat), zI (nFt (aUse (W 117) p own) (aF (W 117) r.toNat).toNat k), zI (oFt (aUse (W 117) p own) (fun i => decide (aO (W 117) i = p)) (aF (W 117) r.toNat).toNat k), zI (aF (W 117) r.toNat + (k : Int))] [] (zEnd MX7_footingOf Q X) X := by
    intro n
    induction n with
    | zero => intro k _ hm9; omega
    | succ n ih =>
      intro k hk hm9
      have hnr := @nFt_rng (aUse (W 117) p own) (fun i => decide (aO (W 117) i = p)) (aF (W 117) r.toNat).toNat k
      refine rr_iload (pc := 17) dX7_footingOf_17 rfl ?_
      refine rr_iload (pc := 19) dX7_footingOf_19 rfl ?_
      refine rr_aload_n (pc := 21) dX7_footingOf_21 rfl ?_
      refine rr_getR (pc := 22) dX7_footingOf_22 fX7_7 zk_116 zr_116_0 ?_
      refine rr_bipush (n := (8)) dX7_footingOf_25 ?_
      refine rr_iload_n (pc := 27) dX7_footingOf_27 rfl ?_
      refine rr_iadd (pc := 28) dX7_footingOf_28 ?_
      refine rr_iald (pc := 29) dX7_footingOf_29 zk_117 (by omega) (by omega) ?_
      refine rr_iadd (pc := 30) dX7_footingOf_30 ?_
      refine rr_icmp_ge (pc := 31) (tgt := 79) dX7_footingOf_31 (by decide) (by unfold zR; omega) (by unfold zR; omega) (fun h31 => ?_) (fun h31 => ?_)
      · refine rr_iload (pc := 79) dX7_footingOf_79 rfl ?_
        have hz9 := zFo_n (u := (aUse (W 117) p own)) (o := (fun i => decide (aO (W 117) i = p))) (f := (aF (W 117) r.toNat).toNat) (w := k) (by omega)
        rw [show ((k : Nat) : Int) = W 117 (8 + r) by omega] at hz9
        rw [hz9] at hq
        refine rr_if_ne (pc := 81) (tgt := 88) dX7_footingOf_81 (by decide) (by unfold zR; omega) (fun h81 => ?_) (fun h81 => ?_)
        · refine rr_iload (pc := 88) dX7_footingOf_88 rfl ?_
          refine rr_iconst (n := 2) dX7_footingOf_90 ?_
          refine rr_icmp_eq (pc := 91) (tgt := 99) dX7_footingOf_91 (by decide) (by unfold zR; omega) (by unfold zR; omega) (fun h91 => ?_) (fun h91 => ?_)
          · refine rr_iconst (n := 2) dX7_footingOf_99 ?_
            refine rr_goto (pc := 100) (tgt := 104) dX7_footingOf_100 (by decide) ?_
            exact rr_reti (pc := 104) dX7_footingOf_104 rfl rfl (by rw [if_neg h81, if_pos (Or.inl h91)]) rfl (hq)
          · refine rr_iload (pc := 94) dX7_footingOf_94 rfl ?_
            refine rr_if_eq (pc := 96) (tgt := 103) dX7_footingOf_96 (by decide) (by unfold zR; omega) (fun h96 => ?_) (fun h96 => ?_)
            · refine rr_iconst (n := 1) dX7_footingOf_103 ?_
              exact rr_reti (pc := 104) dX7_footingOf_104 rfl rfl (by rw [if_neg h81, if_neg (by omega)]) rfl (hq)
            · refine rr_iconst (n := 2) dX7_footingOf_99 ?_
              refine rr_goto (pc := 100) (tgt := 104) dX7_footingOf_100 (by decide) ?_
              exact rr_reti (pc := 104) dX7_footingOf_104 rfl rfl (by rw [if_neg h81, if_pos (Or.inr (by omega))]) rfl (hq)
        · refine rr_iconst (n := 0) dX7_footingOf_84 ?_
          refine rr_goto (pc := 85) (tgt := 104) dX7_footingOf_85 (by decide) ?_
          exact rr_reti (pc := 104) dX7_footingOf_104 rfl rfl (if_pos (by omega)).symm rfl (hq)
      · refine rr_aload_n (pc := 34) dX7_footingOf_34 rfl ?_
        refine rr_iload_n (pc := 35) dX7_footingOf_35 rfl ?_
        refine rr_iload (pc := 36) dX7_footingOf_36 rfl ?_
        refine rr_iload_n (pc := 38) dX7_footingOf_38 rfl ?_
        have hfk : (aF (W 117) r.toNat + (k : Int)).toNat = (aF (W 117) r.toNat).toNat + k := by omega
        refine rr_inv0 (M' := MX7_isUsable) (k := 116) (As := [_, _, _]) (pc := 39) dX7_footingOf_39 lX7_228 kX7_isUsable vX7_isUsable zk_116 (by decide) rfl (by decide) (by decide) (Nat.le_of_ble_eq_true rfl) rfl (eX7_isUsable rfl hw (by omega) (by omega) hz ho ?_)
        rw [hfk]
        refine rr_if_ne (pc := 42) (tgt := 48) dX7_footingOf_42 (by decide) (by split <;> (unfold zR; omega)) (fun h42 => ?_) (fun h42 => ?_)
        · refine rr_iinc (pc := 48) dX7_footingOf_48 rfl (by decide) ?_
          refine rr_iload (pc := 51) dX7_footingOf_51 rfl ?_
          refine rr_if_ne (pc := 53) (tgt := 66) dX7_footingOf_53 (by decide) (by unfold zR; omega) (fun h53 => ?_) (fun h53 => ?_)
          · refine rr_iconst (n := 1) dX7_footingOf_66 ?_
            refine rr_goto (pc := 67) (tgt := 71) dX7_footingOf_67 (by decide) ?_
            refine rr_istore (pc := 71) dX7_footingOf_71 (by decide) ?_
            refine rr_iinc (pc := 73) dX7_footingOf_73 rfl (by decide) ?_
            refine rr_goto (pc := 76) (tgt := 17) dX7_footingOf_76 (by decide) ?_
            have hn9 := z_i10n h42
            have ho9 : oFt (aUse (W 117) p own) (fun i => decide (aO (W 117) i = p)) (aF (W 117) r.toNat).toNat (k + 1) = 1 := by
              show (if _ then _ else _) = _
              split
              · rfl
              · have := hnr.2.2; omega
            refine rr_eqL ?_ (ih (k + 1) (by omega) (by omega))
            rw [nFt_y hn9, ho9, show aF (W 117) r.toNat + ((k + 1 : Nat) : Int) = aF (W 117) r.toNat + (k : Int) + 1 by omega]
            rfl
          · refine rr_aload_n (pc := 56) dX7_footingOf_56 rfl ?_
            refine rr_iload (pc := 57) dX7_footingOf_57 rfl ?_
            refine rr_inv0 (M' := MX7_ownerOf) (k := 116) (As := [_]) (pc := 59) dX7_footingOf_59 lX7_187 kX7_ownerOf vX7_ownerOf zk_116 (by decide) rfl (by decide) (by decide) (Nat.le_of_ble_eq_true rfl) rfl (eX7_ownerOf (by omega) (by omega) ?_)
            have hs4 := wS (aF (W 117) r.toNat + k) (by omega) (by omega)
            refine rr_iload_n (pc := 62) dX7_footingOf_62 rfl ?_
            refine rr_icmp_ne (pc := 63) (tgt := 70) dX7_footingOf_63 (by decide) (by unfold zR; omega) hz (fun h63 => ?_) (fun h63 => ?_)
            · refine rr_iconst (n := 0) dX7_footingOf_70 ?_
              refine rr_istore (pc := 71) dX7_footingOf_71 (by decide) ?_
              refine rr_iinc (pc := 73) dX7_footingOf_73 rfl (by decide) ?_
              refine rr_goto (pc := 76) (tgt := 17) dX7_footingOf_76 (by decide) ?_
              have hn9 := z_i10n h42
              have ho9 : oFt (aUse (W 117) p own) (fun i => decide (aO (W 117) i = p)) (aF (W 117) r.toNat).toNat (k + 1) = 0 := by
                show (if _ then _ else _) = _
                rw [if_neg (fun z => h63 (by have z2 := of_decide_eq_true z.2; rw [← hfk, show (((aF (W 117) r.toNat + (k : Int)).toNat : Nat) : Int) = aF (W 117) r.toNat + (k : Int) by omega] at z2; exact z2))]; omega
              refine rr_eqL ?_ (ih (k + 1) (by omega) (by omega))
              rw [nFt_y hn9, ho9, show aF (W 117) r.toNat + ((k + 1 : Nat) : Int) = aF (W 117) r.toNat + (k : Int) + 1 by omega]
              rfl
            · refine rr_iconst (n := 1) dX7_footingOf_66 ?_
              refine rr_goto (pc := 67) (tgt := 71) dX7_footingOf_67 (by decide) ?_
              refine rr_istore (pc := 71) dX7_footingOf_71 (by decide) ?_
              refine rr_iinc (pc := 73) dX7_footingOf_73 rfl (by decide) ?_
              refine rr_goto (pc := 76) (tgt := 17) dX7_footingOf_76 (by decide) ?_
              have hn9 := z_i10n h42
              have ho9 : oFt (aUse (W 117) p own) (fun i => decide (aO (W 117) i = p)) (aF (W 117) r.toNat).toNat (k + 1) = 1 := if_pos ⟨hn9, decide_eq_true (by rw [← hfk, show (((aF (W 117) r.toNat + (k : Int)).toNat : Nat) : Int) = aF (W 117) r.toNat + (k : Int) by omega]; exact h63)⟩
              refine rr_eqL ?_ (ih (k + 1) (by omega) (by omega))
              rw [nFt_y hn9, ho9, show aF (W 117) r.toNat + ((k + 1 : Nat) : Int) = aF (W 117) r.toNat + (k : Int) + 1 by omega]
              rfl
        · refine rr_goto (pc := 45) (tgt := 73) dX7_footingOf_45 (by decide) ?_
          refine rr_iinc (pc := 73) dX7_footingOf_73 rfl (by decide) ?_
          refine rr_goto (pc := 76) (tgt := 17) dX7_footingOf_76 (by decide) ?_
          have hn9 := z_i10 h42
          refine rr_eqL ?_ (ih (k + 1) (by omega) (by omega))
          rw [nFt_n hn9, show oFt (aUse (W 117) p own) (fun i => decide (aO (W 117) i = p)) (aF (W 117) r.toNat).toNat (k + 1) = oFt (aUse (W 117) p own) (fun i => decide (aO (W 117) i = p)) (aF (W 117) r.toNat).toNat k from if_neg (fun z => hn9 z.1), show aF (W 117) r.toNat + ((k + 1 : Nat) : Int) = aF (W 117) r.toNat + (k : Int) + 1 by omega]
          rfl
  refine rr_aload_n (pc := 0) dX7_footingOf_0 rfl ?_
  refine rr_iload_n (pc := 1) dX7_footingOf_1 rfl ?_
  refine rr_inv0 (M' := MX7_firstOf) (k := 116) (As := [_]) (pc := 2) dX7_footingOf_2 lX7_212 kX7_firstOf vX7_firstOf zk_116 (by decide) rfl (by decide) (by decide) (Nat.le_of_ble_eq_true rfl) rfl (eX7_firstOf h0 (by omega) ?_)
  refine rr_istore (pc := 5) dX7_footingOf_5 (by decide) ?_
  refine rr_iconst (n := 0) dX7_footingOf_7 ?_
  refine rr_istore (pc := 8) dX7_footingOf_8 (by decide) ?_
  refine rr_iconst (n := 0) dX7_footingOf_10 ?_
  refine rr_istore (pc := 11) dX7_footingOf_11 (by decide) ?_
  refine rr_iload (pc := 13) dX7_footingOf_13 rfl ?_
  refine rr_istore (pc := 15) dX7_footingOf_15 (by decide) ?_
  refine rr_eqL ?_ (loop _ 0 (by omega) (Nat.lt_succ_self _))
  rw [show aF (W 117) r.toNat + ((0 : Nat) : Int) = aF (W 117) r.toNat by omega]
  rfl
theorem dX7_last_0 : decode cX7_last 0 = .ok (.aload_n 0, 1) := by decide +kernel
theorem dX7_last_1 : decode cX7_last 1 = .ok (.getfield 7, 3) := by decide +kernel
theorem dX7_last_4 : decode cX7_last 4 = .ok (.iconst 0, 1) := by decide +kernel
theorem dX7_last_5 : decode cX7_last 5 = .ok (.iaload, 1) := by decide +kernel
theorem dX7_last_6 : decode cX7_last 6 = .ok (.iconst 1, 1) := by decide +kernel
theorem dX7_last_7 : decode cX7_last 7 = .ok (.iadd, 1) := by decide +kernel
theorem dX7_last_8 : decode cX7_last 8 = .ok (.ireturn, 1) := by decide +kernel
theorem eX7_last {W : zWd} {Q : Option Value → zWd → Prop} {X : zX} (hq : Q (some (zI (W 117 0 + 1))) W) : Ev MX7_last 0 0 W [.ref 116] Q X := by
  refine ev_of (ls := [.ref 116]) (by decide) rfl (fun _ => rfl) (fun _ => Nat.le_of_ble_eq_true rfl) (Or.inl rfl) ?_
  refine rr_aload_n (pc := 0) dX7_last_0 rfl ?_
  refine rr_getR (pc := 1) dX7_last_1 fX7_7 zk_116 zr_116_0 ?_
  refine rr_iconst (n := 0) dX7_last_4 ?_
  refine rr_iald (pc := 5) dX7_last_5 zk_117 (by omega) (by omega) ?_
  refine rr_iconst (n := 1) dX7_last_6 ?_
  refine rr_iadd (pc := 7) dX7_last_7 ?_
  exact rr_reti (pc := 8) dX7_last_8 rfl rfl rfl rfl (hq)
theorem dX7_rowAt_0 : decode cX7_rowAt 0 = .ok (.iload_n 2, 1) := by decide +kernel
theorem dX7_rowAt_1 : decode cX7_rowAt 1 = .ok (.ifCond .eq 14, 3) := by decide +kernel
theorem dX7_rowAt_4 : decode cX7_rowAt 4 = .ok (.aload_n 0, 1) := by decide +kernel
theorem dX7_rowAt_5 : decode cX7_rowAt 5 = .ok (.getfield 7, 3) := by decide +kernel
theorem dX7_rowAt_8 : decode cX7_rowAt 8 = .ok (.iconst 0, 1) := by decide +kernel
theorem dX7_rowAt_9 : decode cX7_rowAt 9 = .ok (.iaload, 1) := by decide +kernel
theorem dX7_rowAt_10 : decode cX7_rowAt 10 = .ok (.iload_n 1, 1) := by decide +kernel
theorem dX7_rowAt_11 : decode cX7_rowAt 11 = .ok (.isub, 1) := by decide +kernel
theorem dX7_rowAt_12 : decode cX7_rowAt 12 = .ok (.goto 6, 3) := by decide +kernel
theorem dX7_rowAt_15 : decode cX7_rowAt 15 = .ok (.iload_n 1, 1) := by decide +kernel
theorem dX7_rowAt_16 : decode cX7_rowAt 16 = .ok (.iconst 1, 1) := by decide +kernel
theorem dX7_rowAt_17 : decode cX7_rowAt 17 = .ok (.isub, 1) := by decide +kernel
theorem dX7_rowAt_18 : decode cX7_rowAt 18 = .ok (.ireturn, 1) := by decide +kernel
theorem eX7_rowAt {W : zWd} {k b : Int} {Q : Option Value → zWd → Prop} {X : zX} (hb : b = 0 ∨ b = 1) (hq : Q (some (zI (zRa b (W 117 0 + 1) k))) W) : Ev MX7_rowAt 0 0 W [.ref 116, zI k, zI b] Q X := by
  refine ev_of (ls := [.ref 116, zI k, zI b]) (by decide) rfl (fun _ => rfl) (fun _ => Nat.le_of_ble_eq_true rfl) (Or.inl rfl) ?_
  refine rr_iload_n (pc := 0) dX7_rowAt_0 rfl ?_
  refine rr_if_eq (pc := 1) (tgt := 15) dX7_rowAt_1 (by decide) (by unfold zR; omega) (fun h1 => ?_) (fun h1 => ?_)
  · refine rr_iload_n (pc := 15) dX7_rowAt_15 rfl ?_
    refine rr_iconst (n := 1) dX7_rowAt_16 ?_
    refine rr_isub (pc := 17) dX7_rowAt_17 ?_
    exact rr_reti (pc := 18) dX7_rowAt_18 rfl rfl (by unfold zRa; rw [if_pos (by omega)]) rfl (hq)
  · refine rr_aload_n (pc := 4) dX7_rowAt_4 rfl ?_
    refine rr_getR (pc := 5) dX7_rowAt_5 fX7_7 zk_116 zr_116_0 ?_
    refine rr_iconst (n := 0) dX7_rowAt_8 ?_
    refine rr_iald (pc := 9) dX7_rowAt_9 zk_117 (by omega) (by omega) ?_
    refine rr_iload_n (pc := 10) dX7_rowAt_10 rfl ?_
    refine rr_isub (pc := 11) dX7_rowAt_11 ?_
    refine rr_goto (pc := 12) (tgt := 18) dX7_rowAt_12 (by decide) ?_
    exact rr_reti (pc := 18) dX7_rowAt_18 rfl rfl (by unfold zRa; rw [if_neg (by omega)]; omega) rfl (hq)
/-- the reference's ways: the footings, and the row that must be landed on -/
def zMS (W : zWd) (F : Nat → Int) (L must : Nat) : Prop := W 117 0 + 1 = L ∧ 3 ≤ L ∧ L ≤ 11 ∧ must ≤ L ∧ W 116 20 = must ∧ (∀ k : Nat, 1 ≤ k → k < L → W 125 k = F k) ∧ F L = 2 ∧ ∀ k, 0 ≤ F k ∧ F k ≤ 2
theorem dX7_runAt_0 : decode cX7_runAt 0 = .ok (.iload_n 1, 1) := by decide +kernel
theorem dX7_runAt_1 : decode cX7_runAt 1 = .ok (.aload_n 0, 1) := by decide +kernel
theorem dX7_runAt_2 : decode cX7_runAt 2 = .ok (.invokevirtual 231, 3) := by decide +kernel
theorem dX7_runAt_5 : decode cX7_runAt 5 = .ok (.if_icmp .eq 13, 3) := by decide +kernel
theorem dX7_runAt_8 : decode cX7_runAt 8 = .ok (.aload_n 0, 1) := by decide +kernel
theorem dX7_runAt_9 : decode cX7_runAt 9 = .ok (.getfield 39, 3) := by decide +kernel
theorem dX7_runAt_12 : decode cX7_runAt 12 = .ok (.iload_n 1, 1) := by decide +kernel
theorem dX7_runAt_13 : decode cX7_runAt 13 = .ok (.iaload, 1) := by decide +kernel
theorem dX7_runAt_14 : decode cX7_runAt 14 = .ok (.iconst 2, 1) := by decide +kernel
theorem dX7_runAt_15 : decode cX7_runAt 15 = .ok (.if_icmp .ne 7, 3) := by decide +kernel
theorem dX7_runAt_18 : decode cX7_runAt 18 = .ok (.iconst 0, 1) := by decide +kernel
theorem dX7_runAt_19 : decode cX7_runAt 19 = .ok (.goto 6, 3) := by decide +kernel
theorem dX7_runAt_22 : decode cX7_runAt 22 = .ok (.iload_n 2, 1) := by decide +kernel
theorem dX7_runAt_23 : decode cX7_runAt 23 = .ok (.iconst 1, 1) := by decide +kernel
theorem dX7_runAt_24 : decode cX7_runAt 24 = .ok (.iadd, 1) := by decide +kernel
theorem dX7_runAt_25 : decode cX7_runAt 25 = .ok (.ireturn, 1) := by decide +kernel
theorem eX7_runAt {W : zWd} {F : Nat → Int} {L must to run : Nat}  {Q : Option Value → zWd → Prop} {X : zX} (hS : zMS W F L must) (h1 : 1 ≤ to) (h2 : to ≤ L) (hr : run ≤ 20) (hq : Q (some (zI (zRn F to run : Nat))) W) : Ev MX7_runAt 1 0 W [.ref 116, zI (to : Int), zI (run : Int)] Q X := by
  refine ev_of (ls := [.ref 116, zI (to : Int), zI (run : Int)]) (by decide) rfl (fun _ => rfl) (fun _ => Nat.le_of_ble_eq_true rfl) (Or.inl rfl) ?_
  obtain ⟨s0, s1, s2, s3, s4, s5, s6, s7⟩ := id hS
  refine rr_iload_n (pc := 0) dX7_runAt_0 rfl ?_
  refine rr_aload_n (pc := 1) dX7_runAt_1 rfl ?_
  refine rr_inv0 (M' := MX7_last) (k := 116) (As := []) (pc := 2) dX7_runAt_2 lX7_231 kX7_last vX7_last zk_116 (by decide) rfl (by decide) (by decide) (Nat.le_of_ble_eq_true rfl) rfl (eX7_last ?_)
  rw [s0]
  refine rr_icmp_eq (pc := 5) (tgt := 18) dX7_runAt_5 (by decide) (by unfold zR; omega) (by unfold zR; omega) (fun h5 => ?_) (fun h5 => ?_)
  · refine rr_iconst (n := 0) dX7_runAt_18 ?_
    refine rr_goto (pc := 19) (tgt := 25) dX7_runAt_19 (by decide) ?_
    exact rr_reti (pc := 25) dX7_runAt_25 rfl rfl (by unfold zRn; rw [show to = L by omega, if_pos s6]; rfl) rfl (hq)
  · refine rr_aload_n (pc := 8) dX7_runAt_8 rfl ?_
    refine rr_getR (pc := 9) dX7_runAt_9 fX7_39 zk_116 zr_116_18 ?_
    refine rr_iload_n (pc := 12) dX7_runAt_12 rfl ?_
    refine rr_iald (pc := 13) dX7_runAt_13 zk_125 (by omega) (by omega) ?_
    rw [s5 to h1 (by omega)]
    have hf := s7 to
    refine rr_iconst (n := 2) dX7_runAt_14 ?_
    refine rr_icmp_ne (pc := 15) (tgt := 22) dX7_runAt_15 (by decide) (by unfold zR; omega) (by unfold zR; omega) (fun h15 => ?_) (fun h15 => ?_)
    · refine rr_iload_n (pc := 22) dX7_runAt_22 rfl ?_
      refine rr_iconst (n := 1) dX7_runAt_23 ?_
      refine rr_iadd (pc := 24) dX7_runAt_24 ?_
      exact rr_reti (pc := 25) dX7_runAt_25 rfl rfl (by unfold zRn; rw [if_neg h15]; rfl) rfl (hq)
    · refine rr_iconst (n := 0) dX7_runAt_18 ?_
      refine rr_goto (pc := 19) (tgt := 25) dX7_runAt_19 (by decide) ?_
      exact rr_reti (pc := 25) dX7_runAt_25 rfl rfl (by unfold zRn; rw [if_pos h15]; rfl) rfl (hq)
theorem dX7_mayHop_0 : decode cX7_mayHop 0 = .ok (.iload_n 3, 1) := by decide +kernel
theorem dX7_mayHop_1 : decode cX7_mayHop 1 = .ok (.aload_n 0, 1) := by decide +kernel
theorem dX7_mayHop_2 : decode cX7_mayHop 2 = .ok (.invokevirtual 231, 3) := by decide +kernel
theorem dX7_mayHop_5 : decode cX7_mayHop 5 = .ok (.if_icmp .gt 19, 3) := by decide +kernel
theorem dX7_mayHop_8 : decode cX7_mayHop 8 = .ok (.iload_n 2, 1) := by decide +kernel
theorem dX7_mayHop_9 : decode cX7_mayHop 9 = .ok (.aload_n 0, 1) := by decide +kernel
theorem dX7_mayHop_10 : decode cX7_mayHop 10 = .ok (.getfield 234, 3) := by decide +kernel
theorem dX7_mayHop_13 : decode cX7_mayHop 13 = .ok (.if_icmp .ge 13, 3) := by decide +kernel
theorem dX7_mayHop_16 : decode cX7_mayHop 16 = .ok (.iload_n 3, 1) := by decide +kernel
theorem dX7_mayHop_17 : decode cX7_mayHop 17 = .ok (.aload_n 0, 1) := by decide +kernel
theorem dX7_mayHop_18 : decode cX7_mayHop 18 = .ok (.getfield 234, 3) := by decide +kernel
theorem dX7_mayHop_21 : decode cX7_mayHop 21 = .ok (.if_icmp .le 5, 3) := by decide +kernel
theorem dX7_mayHop_24 : decode cX7_mayHop 24 = .ok (.iconst 0, 1) := by decide +kernel
theorem dX7_mayHop_25 : decode cX7_mayHop 25 = .ok (.ireturn, 1) := by decide +kernel
theorem dX7_mayHop_26 : decode cX7_mayHop 26 = .ok (.iload_n 3, 1) := by decide +kernel
theorem dX7_mayHop_27 : decode cX7_mayHop 27 = .ok (.aload_n 0, 1) := by decide +kernel
theorem dX7_mayHop_28 : decode cX7_mayHop 28 = .ok (.invokevirtual 231, 3) := by decide +kernel
theorem dX7_mayHop_31 : decode cX7_mayHop 31 = .ok (.if_icmp .eq 28, 3) := by decide +kernel
theorem dX7_mayHop_34 : decode cX7_mayHop 34 = .ok (.aload_n 0, 1) := by decide +kernel
theorem dX7_mayHop_35 : decode cX7_mayHop 35 = .ok (.getfield 39, 3) := by decide +kernel
theorem dX7_mayHop_38 : decode cX7_mayHop 38 = .ok (.iload_n 3, 1) := by decide +kernel
theorem dX7_mayHop_39 : decode cX7_mayHop 39 = .ok (.iaload, 1) := by decide +kernel
theorem dX7_mayHop_40 : decode cX7_mayHop 40 = .ok (.ifCond .le 23, 3) := by decide +kernel
theorem dX7_mayHop_43 : decode cX7_mayHop 43 = .ok (.aload_n 0, 1) := by decide +kernel
theorem dX7_mayHop_44 : decode cX7_mayHop 44 = .ok (.iload_n 3, 1) := by decide +kernel
theorem dX7_mayHop_45 : decode cX7_mayHop 45 = .ok (.iload 4, 2) := by decide +kernel
theorem dX7_mayHop_47 : decode cX7_mayHop 47 = .ok (.invokevirtual 237, 3) := by decide +kernel
theorem dX7_mayHop_50 : decode cX7_mayHop 50 = .ok (.aload_n 0, 1) := by decide +kernel
theorem dX7_mayHop_51 : decode cX7_mayHop 51 = .ok (.iload_n 1, 1) := by decide +kernel
theorem dX7_mayHop_52 : decode cX7_mayHop 52 = .ok (.iconst 1, 1) := by decide +kernel
theorem dX7_mayHop_53 : decode cX7_mayHop 53 = .ok (.invokevirtual 154, 3) := by decide +kernel
theorem dX7_mayHop_56 : decode cX7_mayHop 56 = .ok (.if_icmp .gt 7, 3) := by decide +kernel
theorem dX7_mayHop_59 : decode cX7_mayHop 59 = .ok (.iconst 1, 1) := by decide +kernel
theorem dX7_mayHop_60 : decode cX7_mayHop 60 = .ok (.goto 4, 3) := by decide +kernel
theorem dX7_mayHop_63 : decode cX7_mayHop 63 = .ok (.iconst 0, 1) := by decide +kernel
theorem dX7_mayHop_64 : decode cX7_mayHop 64 = .ok (.ireturn, 1) := by decide +kernel
theorem eX7_mayHop {W : zWd} {F : Nat → Int} {L must to run : Nat} {k : Nat} {p : Int} {bal : Nat}  {Q : Option Value → zWd → Prop} {X : zX} (hS : zMS W F L must) (h1 : k < to) (h2 : to ≤ 20) (hr : run ≤ 20) (hp0 : 0 ≤ p) (hp1 : p < 6) (hb : aP (W 117) p 1 = bal) (hb9 : bal ≤ 9) (hq : Q (some (zI (if zOk F L must bal k to run then 1 else 0))) W) : Ev MX7_mayHop 2 0 W [.ref 116, zI p, zI (k : Int), zI (to : Int), zI (run : Int)] Q X := by
  refine ev_of (ls := [.ref 116, zI p, zI (k : Int), zI (to : Int), zI (run : Int)]) (by decide) rfl (fun _ => rfl) (fun _ => Nat.le_of_ble_eq_true rfl) (Or.inl rfl) ?_
  obtain ⟨s0, s1, s2, s3, s4, s5, s6, s7⟩ := id hS
  refine rr_iload_n (pc := 0) dX7_mayHop_0 rfl ?_
  refine rr_aload_n (pc := 1) dX7_mayHop_1 rfl ?_
  refine rr_inv0 (M' := MX7_last) (k := 116) (As := []) (pc := 2) dX7_mayHop_2 lX7_231 kX7_last vX7_last zk_116 (by decide) rfl (by decide) (by decide) (Nat.le_of_ble_eq_true rfl) rfl (eX7_last ?_)
  rw [s0]
  refine rr_icmp_gt (pc := 5) (tgt := 24) dX7_mayHop_5 (by decide) (by unfold zR; omega) (by unfold zR; omega) (fun h5 => ?_) (fun h5 => ?_)
  · refine rr_iconst (n := 0) dX7_mayHop_24 ?_
    exact rr_reti (pc := 25) dX7_mayHop_25 rfl rfl (if_neg (fun z => by have := z.1; have := z.2.1; omega)).symm rfl (hq)
  · refine rr_iload_n (pc := 8) dX7_mayHop_8 rfl ?_
    refine rr_aload_n (pc := 9) dX7_mayHop_9 rfl ?_
    refine rr_getI (pc := 10) (ji := 20) dX7_mayHop_10 fX7_234 zk_116 zr_116_20 rfl ?_
    rw [s4]
    refine rr_icmp_ge (pc := 13) (tgt := 26) dX7_mayHop_13 (by decide) (by unfold zR; omega) (by unfold zR; omega) (fun h13 => ?_) (fun h13 => ?_)
    · refine rr_iload_n (pc := 26) dX7_mayHop_26 rfl ?_
      refine rr_aload_n (pc := 27) dX7_mayHop_27 rfl ?_
      refine rr_inv0 (M' := MX7_last) (k := 116) (As := []) (pc := 28) dX7_mayHop_28 lX7_231 kX7_last vX7_last zk_116 (by decide) rfl (by decide) (by decide) (Nat.le_of_ble_eq_true rfl) rfl (eX7_last ?_)
      rw [s0]
      refine rr_icmp_eq (pc := 31) (tgt := 59) dX7_mayHop_31 (by decide) (by unfold zR; omega) (by unfold zR; omega) (fun h31 => ?_) (fun h31 => ?_)
      · refine rr_iconst (n := 1) dX7_mayHop_59 ?_
        refine rr_goto (pc := 60) (tgt := 64) dX7_mayHop_60 (by decide) ?_
        exact rr_reti (pc := 64) dX7_mayHop_64 rfl rfl (if_pos ⟨by omega, by omega, by rw [show to = L by omega, s6]; decide, by unfold zRn; rw [show to = L by omega, if_pos s6]; omega⟩).symm rfl (hq)
      · refine rr_aload_n (pc := 34) dX7_mayHop_34 rfl ?_
        refine rr_getR (pc := 35) dX7_mayHop_35 fX7_39 zk_116 zr_116_18 ?_
        refine rr_iload_n (pc := 38) dX7_mayHop_38 rfl ?_
        refine rr_iald (pc := 39) dX7_mayHop_39 zk_125 (by omega) (by omega) ?_
        rw [s5 to (by omega) (by omega)]
        have hf := s7 to
        refine rr_if_le (pc := 40) (tgt := 63) dX7_mayHop_40 (by decide) (by unfold zR; omega) (fun h40 => ?_) (fun h40 => ?_)
        · refine rr_iconst (n := 0) dX7_mayHop_63 ?_
          exact rr_reti (pc := 64) dX7_mayHop_64 rfl rfl (if_neg (fun z => by have := z.2.2.1; omega)).symm rfl (hq)
        · refine rr_aload_n (pc := 43) dX7_mayHop_43 rfl ?_
          refine rr_iload_n (pc := 44) dX7_mayHop_44 rfl ?_
          refine rr_iload (pc := 45) dX7_mayHop_45 rfl ?_
          refine rr_inv0 (M' := MX7_runAt) (k := 116) (As := [_, _]) (pc := 47) dX7_mayHop_47 lX7_237 kX7_runAt vX7_runAt zk_116 (by decide) rfl (by decide) (by decide) (Nat.le_of_ble_eq_true rfl) rfl (eX7_runAt hS (by omega) (by omega) hr ?_)
          have hrn : zRn F to run ≤ run + 1 := by unfold zRn; split <;> omega
          refine rr_aload_n (pc := 50) dX7_mayHop_50 rfl ?_
          refine rr_iload_n (pc := 51) dX7_mayHop_51 rfl ?_
          refine rr_iconst (n := 1) dX7_mayHop_52 ?_
          refine rr_inv0 (M' := MX7_of) (k := 116) (As := [_, _]) (pc := 53) dX7_mayHop_53 lX7_154 kX7_of vX7_of zk_116 (by decide) rfl (by decide) (by decide) (Nat.le_of_ble_eq_true rfl) rfl (eX7_of (by omega) (by omega) (by omega) (by omega) ?_)
          rw [hb]
          refine rr_icmp_gt (pc := 56) (tgt := 63) dX7_mayHop_56 (by decide) (by unfold zR; omega) (by unfold zR; omega) (fun h56 => ?_) (fun h56 => ?_)
          · refine rr_iconst (n := 0) dX7_mayHop_63 ?_
            exact rr_reti (pc := 64) dX7_mayHop_64 rfl rfl (if_neg (fun z => by have := z.2.2.2; omega)).symm rfl (hq)
          · refine rr_iconst (n := 1) dX7_mayHop_59 ?_
            refine rr_goto (pc := 60) (tgt := 64) dX7_mayHop_60 (by decide) ?_
            exact rr_reti (pc := 64) dX7_mayHop_64 rfl rfl (if_pos ⟨by omega, by omega, by omega, by omega⟩).symm rfl (hq)
    · refine rr_iload_n (pc := 16) dX7_mayHop_16 rfl ?_
      refine rr_aload_n (pc := 17) dX7_mayHop_17 rfl ?_
      refine rr_getI (pc := 18) (ji := 20) dX7_mayHop_18 fX7_234 zk_116 zr_116_20 rfl ?_
      rw [s4]
      refine rr_icmp_le (pc := 21) (tgt := 26) dX7_mayHop_21 (by decide) (by unfold zR; omega) (by unfold zR; omega) (fun h21 => ?_) (fun h21 => ?_)
      · refine rr_iload_n (pc := 26) dX7_mayHop_26 rfl ?_
        refine rr_aload_n (pc := 27) dX7_mayHop_27 rfl ?_
        refine rr_inv0 (M' := MX7_last) (k := 116) (As := []) (pc := 28) dX7_mayHop_28 lX7_231 kX7_last vX7_last zk_116 (by decide) rfl (by decide) (by decide) (Nat.le_of_ble_eq_true rfl) rfl (eX7_last ?_)
        rw [s0]
        refine rr_icmp_eq (pc := 31) (tgt := 59) dX7_mayHop_31 (by decide) (by unfold zR; omega) (by unfold zR; omega) (fun h31 => ?_) (fun h31 => ?_)
        · refine rr_iconst (n := 1) dX7_mayHop_59 ?_
          refine rr_goto (pc := 60) (tgt := 64) dX7_mayHop_60 (by decide) ?_
          exact rr_reti (pc := 64) dX7_mayHop_64 rfl rfl (if_pos ⟨by omega, by omega, by rw [show to = L by omega, s6]; decide, by unfold zRn; rw [show to = L by omega, if_pos s6]; omega⟩).symm rfl (hq)
        · refine rr_aload_n (pc := 34) dX7_mayHop_34 rfl ?_
          refine rr_getR (pc := 35) dX7_mayHop_35 fX7_39 zk_116 zr_116_18 ?_
          refine rr_iload_n (pc := 38) dX7_mayHop_38 rfl ?_
          refine rr_iald (pc := 39) dX7_mayHop_39 zk_125 (by omega) (by omega) ?_
          rw [s5 to (by omega) (by omega)]
          have hf := s7 to
          refine rr_if_le (pc := 40) (tgt := 63) dX7_mayHop_40 (by decide) (by unfold zR; omega) (fun h40 => ?_) (fun h40 => ?_)
          · refine rr_iconst (n := 0) dX7_mayHop_63 ?_
            exact rr_reti (pc := 64) dX7_mayHop_64 rfl rfl (if_neg (fun z => by have := z.2.2.1; omega)).symm rfl (hq)
          · refine rr_aload_n (pc := 43) dX7_mayHop_43 rfl ?_
            refine rr_iload_n (pc := 44) dX7_mayHop_44 rfl ?_
            refine rr_iload (pc := 45) dX7_mayHop_45 rfl ?_
            refine rr_inv0 (M' := MX7_runAt) (k := 116) (As := [_, _]) (pc := 47) dX7_mayHop_47 lX7_237 kX7_runAt vX7_runAt zk_116 (by decide) rfl (by decide) (by decide) (Nat.le_of_ble_eq_true rfl) rfl (eX7_runAt hS (by omega) (by omega) hr ?_)
            have hrn : zRn F to run ≤ run + 1 := by unfold zRn; split <;> omega
            refine rr_aload_n (pc := 50) dX7_mayHop_50 rfl ?_
            refine rr_iload_n (pc := 51) dX7_mayHop_51 rfl ?_
            refine rr_iconst (n := 1) dX7_mayHop_52 ?_
            refine rr_inv0 (M' := MX7_of) (k := 116) (As := [_, _]) (pc := 53) dX7_mayHop_53 lX7_154 kX7_of vX7_of zk_116 (by decide) rfl (by decide) (by decide) (Nat.le_of_ble_eq_true rfl) rfl (eX7_of (by omega) (by omega) (by omega) (by omega) ?_)
            rw [hb]
            refine rr_icmp_gt (pc := 56) (tgt := 63) dX7_mayHop_56 (by decide) (by unfold zR; omega) (by unfold zR; omega) (fun h56 => ?_) (fun h56 => ?_)
            · refine rr_iconst (n := 0) dX7_mayHop_63 ?_
              exact rr_reti (pc := 64) dX7_mayHop_64 rfl rfl (if_neg (fun z => by have := z.2.2.2; omega)).symm rfl (hq)
            · refine rr_iconst (n := 1) dX7_mayHop_59 ?_
              refine rr_goto (pc := 60) (tgt := 64) dX7_mayHop_60 (by decide) ?_
              exact rr_reti (pc := 64) dX7_mayHop_64 rfl rfl (if_pos ⟨by omega, by omega, by omega, by omega⟩).symm rfl (hq)
      · refine rr_iconst (n := 0) dX7_mayHop_24 ?_
        exact rr_reti (pc := 25) dX7_mayHop_25 rfl rfl (if_neg (fun z => by have := z.1; have := z.2.1; omega)).symm rfl (hq)
theorem dX7_leastBy_0 : decode cX7_leastBy 0 = .ok (.aload_n 0, 1) := by decide +kernel
theorem dX7_leastBy_1 : decode cX7_leastBy 1 = .ok (.iload_n 1, 1) := by decide +kernel
theorem dX7_leastBy_2 : decode cX7_leastBy 2 = .ok (.iload_n 2, 1) := by decide +kernel
theorem dX7_leastBy_3 : decode cX7_leastBy 3 = .ok (.iload_n 3, 1) := by decide +kernel
theorem dX7_leastBy_4 : decode cX7_leastBy 4 = .ok (.iload 4, 2) := by decide +kernel
theorem dX7_leastBy_6 : decode cX7_leastBy 6 = .ok (.invokevirtual 240, 3) := by decide +kernel
theorem dX7_leastBy_9 : decode cX7_leastBy 9 = .ok (.ifCond .eq 31, 3) := by decide +kernel
theorem dX7_leastBy_12 : decode cX7_leastBy 12 = .ok (.iload_n 3, 1) := by decide +kernel
theorem dX7_leastBy_13 : decode cX7_leastBy 13 = .ok (.iload_n 2, 1) := by decide +kernel
theorem dX7_leastBy_14 : decode cX7_leastBy 14 = .ok (.isub, 1) := by decide +kernel
theorem dX7_leastBy_15 : decode cX7_leastBy 15 = .ok (.iload_n 3, 1) := by decide +kernel
theorem dX7_leastBy_16 : decode cX7_leastBy 16 = .ok (.iload_n 2, 1) := by decide +kernel
theorem dX7_leastBy_17 : decode cX7_leastBy 17 = .ok (.isub, 1) := by decide +kernel
theorem dX7_leastBy_18 : decode cX7_leastBy 18 = .ok (.imul, 1) := by decide +kernel
theorem dX7_leastBy_19 : decode cX7_leastBy 19 = .ok (.aload_n 0, 1) := by decide +kernel
theorem dX7_leastBy_20 : decode cX7_leastBy 20 = .ok (.getfield 36, 3) := by decide +kernel
theorem dX7_leastBy_23 : decode cX7_leastBy 23 = .ok (.bipush 10, 2) := by decide +kernel
theorem dX7_leastBy_25 : decode cX7_leastBy 25 = .ok (.iload_n 3, 1) := by decide +kernel
theorem dX7_leastBy_26 : decode cX7_leastBy 26 = .ok (.imul, 1) := by decide +kernel
theorem dX7_leastBy_27 : decode cX7_leastBy 27 = .ok (.aload_n 0, 1) := by decide +kernel
theorem dX7_leastBy_28 : decode cX7_leastBy 28 = .ok (.iload_n 3, 1) := by decide +kernel
theorem dX7_leastBy_29 : decode cX7_leastBy 29 = .ok (.iload 4, 2) := by decide +kernel
theorem dX7_leastBy_31 : decode cX7_leastBy 31 = .ok (.invokevirtual 237, 3) := by decide +kernel
theorem dX7_leastBy_34 : decode cX7_leastBy 34 = .ok (.iadd, 1) := by decide +kernel
theorem dX7_leastBy_35 : decode cX7_leastBy 35 = .ok (.iaload, 1) := by decide +kernel
theorem dX7_leastBy_36 : decode cX7_leastBy 36 = .ok (.iadd, 1) := by decide +kernel
theorem dX7_leastBy_37 : decode cX7_leastBy 37 = .ok (.goto 5, 3) := by decide +kernel
theorem dX7_leastBy_40 : decode cX7_leastBy 40 = .ok (.ldc 244, 2) := by decide +kernel
theorem dX7_leastBy_42 : decode cX7_leastBy 42 = .ok (.ireturn, 1) := by decide +kernel
theorem eX7_leastBy {W : zWd} {F : Nat → Int} {L must to run : Nat} {k : Nat} {p : Int} {bal : Nat} {V : Nat → Nat → Int}  {Q : Option Value → zWd → Prop} {X : zX} (hS : zMS W F L must) (h1 : k < to) (h2 : to ≤ 20) (hr : run ≤ 20) (hp0 : 0 ≤ p) (hp1 : p < 6) (hb : aP (W 117) p 1 = bal) (hb9 : bal ≤ 9) (hV : zOk F L must bal k to run → W 124 (10 * (to : Int) + (zRn F to run : Nat)) = V to (zRn F to run)) (hq : Q (some (zI (zBy F L must bal V k run to))) W) : Ev MX7_leastBy 3 0 W [.ref 116, zI p, zI (k : Int), zI (to : Int), zI (run : Int)] Q X := by
  refine ev_of (ls := [.ref 116, zI p, zI (k : Int), zI (to : Int), zI (run : Int)]) (by decide) rfl (fun _ => rfl) (fun _ => Nat.le_of_ble_eq_true rfl) (Or.inl rfl) ?_
  obtain ⟨s0, s1, s2, s3, s4, s5, s6, s7⟩ := id hS
  refine rr_aload_n (pc := 0) dX7_leastBy_0 rfl ?_
  refine rr_iload_n (pc := 1) dX7_leastBy_1 rfl ?_
  refine rr_iload_n (pc := 2) dX7_leastBy_2 rfl ?_
  refine rr_iload_n (pc := 3) dX7_leastBy_3 rfl ?_
  refine rr_iload (pc := 4) dX7_leastBy_4 rfl ?_
  refine rr_inv0 (M' := MX7_mayHop) (k := 116) (As := [_, _, _, _]) (pc := 6) dX7_leastBy_6 lX7_240 kX7_mayHop vX7_mayHop zk_116 (by decide) rfl (by decide) (by decide) (Nat.le_of_ble_eq_true rfl) rfl (eX7_mayHop hS h1 h2 hr hp0 hp1 hb hb9 ?_)
  refine rr_if_eq (pc := 9) (tgt := 40) dX7_leastBy_9 (by decide) (by split <;> (unfold zR; omega)) (fun h9 => ?_) (fun h9 => ?_)
  · refine rr_ldc (pc := 40) dX7_leastBy_40 cX7_k244 ?_
    exact rr_reti (pc := 42) dX7_leastBy_42 rfl rfl (by unfold zBy; rw [if_neg (z_i10 (by omega))]) rfl (hq)
  · refine rr_iload_n (pc := 12) dX7_leastBy_12 rfl ?_
    refine rr_iload_n (pc := 13) dX7_leastBy_13 rfl ?_
    refine rr_isub (pc := 14) dX7_leastBy_14 ?_
    refine rr_iload_n (pc := 15) dX7_leastBy_15 rfl ?_
    refine rr_iload_n (pc := 16) dX7_leastBy_16 rfl ?_
    refine rr_isub (pc := 17) dX7_leastBy_17 ?_
    refine rr_imul (pc := 18) dX7_leastBy_18 ?_
    refine rr_aload_n (pc := 19) dX7_leastBy_19 rfl ?_
    refine rr_getR (pc := 20) dX7_leastBy_20 fX7_36 zk_116 zr_116_17 ?_
    refine rr_bipush (n := (10)) dX7_leastBy_23 ?_
    refine rr_iload_n (pc := 25) dX7_leastBy_25 rfl ?_
    refine rr_imul (pc := 26) dX7_leastBy_26 ?_
    refine rr_aload_n (pc := 27) dX7_leastBy_27 rfl ?_
    refine rr_iload_n (pc := 28) dX7_leastBy_28 rfl ?_
    refine rr_iload (pc := 29) dX7_leastBy_29 rfl ?_
    have hok := z_i10n h9
    refine rr_inv0 (M' := MX7_runAt) (k := 116) (As := [_, _]) (pc := 31) dX7_leastBy_31 lX7_237 kX7_runAt vX7_runAt zk_116 (by decide) rfl (by decide) (by decide) (Nat.le_of_ble_eq_true rfl) rfl (eX7_runAt hS (by omega) hok.1 hr ?_)
    have hrb := hok.2.2.2
    have htl := hok.1
    refine rr_iadd (pc := 34) dX7_leastBy_34 ?_
    refine rr_iald (pc := 35) dX7_leastBy_35 zk_124 (by omega) (by omega) ?_
    rw [hV hok]
    refine rr_iadd (pc := 36) dX7_leastBy_36 ?_
    refine rr_goto (pc := 37) (tgt := 42) dX7_leastBy_37 (by decide) ?_
    exact rr_reti (pc := 42) dX7_leastBy_42 rfl rfl (by unfold zBy; rw [if_pos hok]) rfl (hq)
