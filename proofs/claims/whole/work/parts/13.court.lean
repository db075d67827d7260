theorem dX0_get_0 : decode cX0_get 0 = .ok (.aload_n 0, 1) := by decide +kernel
theorem dX0_get_1 : decode cX0_get 1 = .ok (.getfield 24, 3) := by decide +kernel
theorem dX0_get_4 : decode cX0_get 4 = .ok (.iload_n 1, 1) := by decide +kernel
theorem dX0_get_5 : decode cX0_get 5 = .ok (.bipush 10, 2) := by decide +kernel
theorem dX0_get_7 : decode cX0_get 7 = .ok (.imul, 1) := by decide +kernel
theorem dX0_get_8 : decode cX0_get 8 = .ok (.iload_n 2, 1) := by decide +kernel
theorem dX0_get_9 : decode cX0_get 9 = .ok (.iadd, 1) := by decide +kernel
theorem dX0_get_10 : decode cX0_get 10 = .ok (.iaload, 1) := by decide +kernel
theorem dX0_get_11 : decode cX0_get 11 = .ok (.ireturn, 1) := by decide +kernel
theorem eX0_get {c : Nat} {W : zWd} {p w : Int} {Q : Option Value → zWd → Prop} {X : zX} (hc : zCt c) (hp0 : 0 ≤ p) (hp1 : p < 6) (hw0 : 0 ≤ w) (hw1 : w < 10) (hq : Q (some (zI (W (c + 5) (p * 10 + w)))) W) : Ev MX0_get 0 0 W [.ref c, zI p, zI w] Q X := by
  refine ev_of (ls := [.ref c, zI p, zI w]) (by decide) rfl (fun _ => rfl) (fun _ => Nat.le_of_ble_eq_true rfl) (Or.inl rfl) ?_
  refine rr_aload_n (pc := 0) dX0_get_0 rfl ?_
  refine rr_getR (pc := 1) dX0_get_1 fX0_24 hc.k hc.r12 ?_
  refine rr_iload_n (pc := 4) dX0_get_4 rfl ?_
  refine rr_bipush (n := (10)) dX0_get_5 ?_
  refine rr_imul (pc := 7) dX0_get_7 ?_
  refine rr_iload_n (pc := 8) dX0_get_8 rfl ?_
  refine rr_iadd (pc := 9) dX0_get_9 ?_
  refine rr_iald (pc := 10) dX0_get_10 hc.a5 (by omega) (by omega) ?_
  exact rr_reti (pc := 11) dX0_get_11 rfl rfl rfl rfl (hq)
theorem dX0_put_0 : decode cX0_put 0 = .ok (.aload_n 0, 1) := by decide +kernel
theorem dX0_put_1 : decode cX0_put 1 = .ok (.getfield 24, 3) := by decide +kernel
theorem dX0_put_4 : decode cX0_put 4 = .ok (.iload_n 1, 1) := by decide +kernel
theorem dX0_put_5 : decode cX0_put 5 = .ok (.bipush 10, 2) := by decide +kernel
theorem dX0_put_7 : decode cX0_put 7 = .ok (.imul, 1) := by decide +kernel
theorem dX0_put_8 : decode cX0_put 8 = .ok (.iload_n 2, 1) := by decide +kernel
theorem dX0_put_9 : decode cX0_put 9 = .ok (.iadd, 1) := by decide +kernel
theorem dX0_put_10 : decode cX0_put 10 = .ok (.iload_n 3, 1) := by decide +kernel
theorem dX0_put_11 : decode cX0_put 11 = .ok (.iastore, 1) := by decide +kernel
theorem dX0_put_12 : decode cX0_put 12 = .ok (.return_, 1) := by decide +kernel
theorem eX0_put {c : Nat} {W : zWd} {p w v : Int} {Q : Option Value → zWd → Prop} {X : zX} (hc : zCt c) (hp0 : 0 ≤ p) (hp1 : p < 6) (hw0 : 0 ≤ w) (hw1 : w < 10) (hq : Q none (zup W (c + 5) (p * 10 + w) v)) : Ev MX0_put 0 0 W [.ref c, zI p, zI w, zI v] Q X := by
  refine ev_of (ls := [.ref c, zI p, zI w, zI v]) (by decide) rfl (fun _ => rfl) (fun _ => Nat.le_of_ble_eq_true rfl) (Or.inl rfl) ?_
  refine rr_aload_n (pc := 0) dX0_put_0 rfl ?_
  refine rr_getR (pc := 1) dX0_put_1 fX0_24 hc.k hc.r12 ?_
  refine rr_iload_n (pc := 4) dX0_put_4 rfl ?_
  refine rr_bipush (n := (10)) dX0_put_5 ?_
  refine rr_imul (pc := 7) dX0_put_7 ?_
  refine rr_iload_n (pc := 8) dX0_put_8 rfl ?_
  refine rr_iadd (pc := 9) dX0_put_9 ?_
  refine rr_iload_n (pc := 10) dX0_put_10 rfl ?_
  refine rr_iast (pc := 11) dX0_put_11 hc.a5 (by omega) (by omega) ?_
  exact rr_retv (pc := 12) dX0_put_12 rfl rfl (hq)
theorem dX0_widthOf_0 : decode cX0_widthOf 0 = .ok (.aload_n 0, 1) := by decide +kernel
theorem dX0_widthOf_1 : decode cX0_widthOf 1 = .ok (.getfield 9, 3) := by decide +kernel
theorem dX0_widthOf_4 : decode cX0_widthOf 4 = .ok (.iload_n 1, 1) := by decide +kernel
theorem dX0_widthOf_5 : decode cX0_widthOf 5 = .ok (.iconst 1, 1) := by decide +kernel
theorem dX0_widthOf_6 : decode cX0_widthOf 6 = .ok (.iadd, 1) := by decide +kernel
theorem dX0_widthOf_7 : decode cX0_widthOf 7 = .ok (.iaload, 1) := by decide +kernel
theorem dX0_widthOf_8 : decode cX0_widthOf 8 = .ok (.aload_n 0, 1) := by decide +kernel
theorem dX0_widthOf_9 : decode cX0_widthOf 9 = .ok (.getfield 9, 3) := by decide +kernel
theorem dX0_widthOf_12 : decode cX0_widthOf 12 = .ok (.iload_n 1, 1) := by decide +kernel
theorem dX0_widthOf_13 : decode cX0_widthOf 13 = .ok (.iaload, 1) := by decide +kernel
theorem dX0_widthOf_14 : decode cX0_widthOf 14 = .ok (.isub, 1) := by decide +kernel
theorem dX0_widthOf_15 : decode cX0_widthOf 15 = .ok (.ireturn, 1) := by decide +kernel
theorem eX0_widthOf {c : Nat} {W : zWd} {r : Int} {Q : Option Value → zWd → Prop} {X : zX} (hc : zCt c) (h0 : 0 ≤ r) (h1 : r < 10) (hq : Q (some (zI (W (c + 1) (r + 1) - W (c + 1) r))) W) : Ev MX0_widthOf 0 0 W [.ref c, zI r] Q X := by
  refine ev_of (ls := [.ref c, zI r]) (by decide) rfl (fun _ => rfl) (fun _ => Nat.le_of_ble_eq_true rfl) (Or.inl rfl) ?_
  refine rr_aload_n (pc := 0) dX0_widthOf_0 rfl ?_
  refine rr_getR (pc := 1) dX0_widthOf_1 fX0_9 hc.k hc.r8 ?_
  refine rr_iload_n (pc := 4) dX0_widthOf_4 rfl ?_
  refine rr_iconst (n := 1) dX0_widthOf_5 ?_
  refine rr_iadd (pc := 6) dX0_widthOf_6 ?_
  refine rr_iald (pc := 7) dX0_widthOf_7 hc.a1 (by omega) (by omega) ?_
  refine rr_aload_n (pc := 8) dX0_widthOf_8 rfl ?_
  refine rr_getR (pc := 9) dX0_widthOf_9 fX0_9 hc.k hc.r8 ?_
  refine rr_iload_n (pc := 12) dX0_widthOf_12 rfl ?_
  refine rr_iald (pc := 13) dX0_widthOf_13 hc.a1 (by omega) (by omega) ?_
  refine rr_isub (pc := 14) dX0_widthOf_14 ?_
  exact rr_reti (pc := 15) dX0_widthOf_15 rfl rfl rfl rfl (hq)
theorem dX0_sideOf_0 : decode cX0_sideOf 0 = .ok (.iload_n 1, 1) := by decide +kernel
theorem dX0_sideOf_1 : decode cX0_sideOf 1 = .ok (.aload_n 0, 1) := by decide +kernel
theorem dX0_sideOf_2 : decode cX0_sideOf 2 = .ok (.getfield 9, 3) := by decide +kernel
theorem dX0_sideOf_5 : decode cX0_sideOf 5 = .ok (.aload_n 0, 1) := by decide +kernel
theorem dX0_sideOf_6 : decode cX0_sideOf 6 = .ok (.getfield 15, 3) := by decide +kernel
theorem dX0_sideOf_9 : decode cX0_sideOf 9 = .ok (.iload_n 1, 1) := by decide +kernel
theorem dX0_sideOf_10 : decode cX0_sideOf 10 = .ok (.iaload, 1) := by decide +kernel
theorem dX0_sideOf_11 : decode cX0_sideOf 11 = .ok (.iaload, 1) := by decide +kernel
theorem dX0_sideOf_12 : decode cX0_sideOf 12 = .ok (.isub, 1) := by decide +kernel
theorem dX0_sideOf_13 : decode cX0_sideOf 13 = .ok (.ireturn, 1) := by decide +kernel
theorem eX0_sideOf {c : Nat} {W : zWd} {a : Int → Int} {T : Int} {s : Int} {Q : Option Value → zWd → Prop} {X : zX} (hc : zCt c) (hR : zCR W c a) (hw : zWf T a) (h0 : 1 ≤ s) (h1 : s ≤ a 1) (hq : Q (some (zI (s - aF a (aR a s)))) W) : Ev MX0_sideOf 0 0 W [.ref c, zI s] Q X := by
  refine ev_of (ls := [.ref c, zI s]) (by decide) rfl (fun _ => rfl) (fun _ => Nat.le_of_ble_eq_true rfl) (Or.inl rfl) ?_
  obtain ⟨r0, r1, r2, r3, r4, r5, r6, r7, rF, rS, rP, rB⟩ := id hR
  obtain ⟨w0, w0', wW, w1, w2, w2', w3, w3', w4, w4', w5, w5', w6, w6', w7, w7', wS, wP, wT⟩ := id hw
  have wq := zWf.sq hw
  have hr := aR_spec hw h0 h1
  have hs1 := (rS s h0 h1).1
  refine rr_iload_n (pc := 0) dX0_sideOf_0 rfl ?_
  refine rr_aload_n (pc := 1) dX0_sideOf_1 rfl ?_
  refine rr_getR (pc := 2) dX0_sideOf_2 fX0_9 hc.k hc.r8 ?_
  refine rr_aload_n (pc := 5) dX0_sideOf_5 rfl ?_
  refine rr_getR (pc := 6) dX0_sideOf_6 fX0_15 hc.k hc.r9 ?_
  refine rr_iload_n (pc := 9) dX0_sideOf_9 rfl ?_
  refine rr_iald (pc := 10) dX0_sideOf_10 hc.a2 (by omega) (by omega) ?_
  refine rr_iald (pc := 11) dX0_sideOf_11 hc.a1 (by omega) (by omega) ?_
  refine rr_isub (pc := 12) dX0_sideOf_12 ?_
  exact rr_reti (pc := 13) dX0_sideOf_13 rfl rfl (by rw [hs1, rF _ (by omega)]) rfl (hq)
theorem z_p32 {k : Nat} (h : k < 32) : 2 ^ k < 4294967296 := Nat.pow_lt_pow_right (a := 2) (by decide) h
theorem zSet_32 (P : Nat → Bool) {n : Nat} (h : n ≤ 20) : zSet P n < 2097152 := Nat.lt_of_lt_of_le (zSet_lt P n) (Nat.pow_le_pow_right (n := 2) (by decide) (show n + 1 ≤ 21 by omega))
theorem ite_zI {P : Prop} [Decidable P] {Q : Option Value → zWd → Prop} {W : zWd} {x y : Int} (h : P) (hq : Q (some (zI (if P then x else y))) W) : Q (some (zI x)) W := by rw [if_pos h] at hq; exact hq
theorem ite_zI2 {P : Prop} [Decidable P] {Q : Option Value → zWd → Prop} {W : zWd} {x y : Int} (h : ¬ P) (hq : Q (some (zI (if P then x else y))) W) : Q (some (zI y)) W := by rw [if_neg h] at hq; exact hq
theorem dX0_isForbidden_0 : decode cX0_isForbidden 0 = .ok (.aload_n 0, 1) := by decide +kernel
theorem dX0_isForbidden_1 : decode cX0_isForbidden 1 = .ok (.getfield 18, 3) := by decide +kernel
theorem dX0_isForbidden_4 : decode cX0_isForbidden 4 = .ok (.iload_n 2, 1) := by decide +kernel
theorem dX0_isForbidden_5 : decode cX0_isForbidden 5 = .ok (.iaload, 1) := by decide +kernel
theorem dX0_isForbidden_6 : decode cX0_isForbidden 6 = .ok (.iconst (-1), 1) := by decide +kernel
theorem dX0_isForbidden_7 : decode cX0_isForbidden 7 = .ok (.if_icmp .eq 17, 3) := by decide +kernel
theorem dX0_isForbidden_10 : decode cX0_isForbidden 10 = .ok (.aload_n 0, 1) := by decide +kernel
theorem dX0_isForbidden_11 : decode cX0_isForbidden 11 = .ok (.getfield 18, 3) := by decide +kernel
theorem dX0_isForbidden_14 : decode cX0_isForbidden 14 = .ok (.iload_n 2, 1) := by decide +kernel
theorem dX0_isForbidden_15 : decode cX0_isForbidden 15 = .ok (.iaload, 1) := by decide +kernel
theorem dX0_isForbidden_16 : decode cX0_isForbidden 16 = .ok (.iload_n 1, 1) := by decide +kernel
theorem dX0_isForbidden_17 : decode cX0_isForbidden 17 = .ok (.if_icmp .eq 7, 3) := by decide +kernel
theorem dX0_isForbidden_20 : decode cX0_isForbidden 20 = .ok (.iconst 1, 1) := by decide +kernel
theorem dX0_isForbidden_21 : decode cX0_isForbidden 21 = .ok (.goto 4, 3) := by decide +kernel
theorem dX0_isForbidden_24 : decode cX0_isForbidden 24 = .ok (.iconst 0, 1) := by decide +kernel
theorem dX0_isForbidden_25 : decode cX0_isForbidden 25 = .ok (.ireturn, 1) := by decide +kernel
theorem eX0_isForbidden {c : Nat} {W : zWd} {a : Int → Int} {T : Int} {q s : Int} {Q : Option Value → zWd → Prop} {X : zX} (hc : zCt c) (hR : zCR W c a) (hw : zWf T a) (h0 : 1 ≤ s) (h1 : s ≤ a 1) (hq0 : zR q) (hq : Q (some (zI (if aForb a q s then 1 else 0))) W) : Ev MX0_isForbidden 0 0 W [.ref c, zI q, zI s] Q X := by
  refine ev_of (ls := [.ref c, zI q, zI s]) (by decide) rfl (fun _ => rfl) (fun _ => Nat.le_of_ble_eq_true rfl) (Or.inl rfl) ?_
  obtain ⟨r0, r1, r2, r3, r4, r5, r6, r7, rF, rS, rP, rB⟩ := id hR
  obtain ⟨w0, w0', wW, w1, w2, w2', w3, w3', w4, w4', w5, w5', w6, w6', w7, w7', wS, wP, wT⟩ := id hw
  have wq := zWf.sq hw
  have hs3 := (rS s h0 h1).2.1
  have hs4 := wS s h0 h1
  unfold zR at hq0
  refine rr_aload_n (pc := 0) dX0_isForbidden_0 rfl ?_
  refine rr_getR (pc := 1) dX0_isForbidden_1 fX0_18 hc.k hc.r10 ?_
  refine rr_iload_n (pc := 4) dX0_isForbidden_4 rfl ?_
  refine rr_iald (pc := 5) dX0_isForbidden_5 hc.a3 (by omega) (by omega) ?_
  refine rr_iconst (n := (-1)) dX0_isForbidden_6 ?_
  refine rr_icmp_eq (pc := 7) (tgt := 24) dX0_isForbidden_7 (by decide) (by unfold zR; omega) (by unfold zR; omega) (fun h7 => ?_) (fun h7 => ?_)
  · refine rr_iconst (n := 0) dX0_isForbidden_24 ?_
    exact rr_reti (pc := 25) dX0_isForbidden_25 rfl rfl rfl rfl ((by first | exact ite_zI (P := aForb a q s) (by unfold aForb; omega) hq | exact ite_zI2 (P := aForb a q s) (by unfold aForb; omega) hq))
  · refine rr_aload_n (pc := 10) dX0_isForbidden_10 rfl ?_
    refine rr_getR (pc := 11) dX0_isForbidden_11 fX0_18 hc.k hc.r10 ?_
    refine rr_iload_n (pc := 14) dX0_isForbidden_14 rfl ?_
    refine rr_iald (pc := 15) dX0_isForbidden_15 hc.a3 (by omega) (by omega) ?_
    refine rr_iload_n (pc := 16) dX0_isForbidden_16 rfl ?_
    refine rr_icmp_eq (pc := 17) (tgt := 24) dX0_isForbidden_17 (by decide) (by unfold zR; omega) (by unfold zR; omega) (fun h17 => ?_) (fun h17 => ?_)
    · refine rr_iconst (n := 0) dX0_isForbidden_24 ?_
      exact rr_reti (pc := 25) dX0_isForbidden_25 rfl rfl rfl rfl ((by first | exact ite_zI (P := aForb a q s) (by unfold aForb; omega) hq | exact ite_zI2 (P := aForb a q s) (by unfold aForb; omega) hq))
    · refine rr_iconst (n := 1) dX0_isForbidden_20 ?_
      refine rr_goto (pc := 21) (tgt := 25) dX0_isForbidden_21 (by decide) ?_
      exact rr_reti (pc := 25) dX0_isForbidden_25 rfl rfl rfl rfl ((by first | exact ite_zI (P := aForb a q s) (by unfold aForb; omega) hq | exact ite_zI2 (P := aForb a q s) (by unfold aForb; omega) hq))
theorem dX0_squaresOf_0 : decode cX0_squaresOf 0 = .ok (.iconst 0, 1) := by decide +kernel
theorem dX0_squaresOf_1 : decode cX0_squaresOf 1 = .ok (.istore_n 2, 1) := by decide +kernel
theorem dX0_squaresOf_2 : decode cX0_squaresOf 2 = .ok (.iconst 1, 1) := by decide +kernel
theorem dX0_squaresOf_3 : decode cX0_squaresOf 3 = .ok (.istore_n 3, 1) := by decide +kernel
theorem dX0_squaresOf_4 : decode cX0_squaresOf 4 = .ok (.iload_n 3, 1) := by decide +kernel
theorem dX0_squaresOf_5 : decode cX0_squaresOf 5 = .ok (.aload_n 0, 1) := by decide +kernel
theorem dX0_squaresOf_6 : decode cX0_squaresOf 6 = .ok (.getfield 41, 3) := by decide +kernel
theorem dX0_squaresOf_9 : decode cX0_squaresOf 9 = .ok (.if_icmp .gt 25, 3) := by decide +kernel
theorem dX0_squaresOf_12 : decode cX0_squaresOf 12 = .ok (.aload_n 0, 1) := by decide +kernel
theorem dX0_squaresOf_13 : decode cX0_squaresOf 13 = .ok (.getfield 18, 3) := by decide +kernel
theorem dX0_squaresOf_16 : decode cX0_squaresOf 16 = .ok (.iload_n 3, 1) := by decide +kernel
theorem dX0_squaresOf_17 : decode cX0_squaresOf 17 = .ok (.iaload, 1) := by decide +kernel
theorem dX0_squaresOf_18 : decode cX0_squaresOf 18 = .ok (.iload_n 1, 1) := by decide +kernel
theorem dX0_squaresOf_19 : decode cX0_squaresOf 19 = .ok (.if_icmp .ne 9, 3) := by decide +kernel
theorem dX0_squaresOf_22 : decode cX0_squaresOf 22 = .ok (.iload_n 2, 1) := by decide +kernel
theorem dX0_squaresOf_23 : decode cX0_squaresOf 23 = .ok (.iconst 1, 1) := by decide +kernel
theorem dX0_squaresOf_24 : decode cX0_squaresOf 24 = .ok (.iload_n 3, 1) := by decide +kernel
theorem dX0_squaresOf_25 : decode cX0_squaresOf 25 = .ok (.ishl, 1) := by decide +kernel
theorem dX0_squaresOf_26 : decode cX0_squaresOf 26 = .ok (.ior, 1) := by decide +kernel
theorem dX0_squaresOf_27 : decode cX0_squaresOf 27 = .ok (.istore_n 2, 1) := by decide +kernel
theorem dX0_squaresOf_28 : decode cX0_squaresOf 28 = .ok (.iinc 3 1, 3) := by decide +kernel
theorem dX0_squaresOf_31 : decode cX0_squaresOf 31 = .ok (.goto (-27), 3) := by decide +kernel
theorem dX0_squaresOf_34 : decode cX0_squaresOf 34 = .ok (.iload_n 2, 1) := by decide +kernel
theorem dX0_squaresOf_35 : decode cX0_squaresOf 35 = .ok (.ireturn, 1) := by decide +kernel
theorem eX0_squaresOf {c : Nat} {W : zWd} {a : Int → Int} {T : Int} {o : Int} {Q : Option Value → zWd → Prop} {X : zX} (hc : zCt c) (hR : zCR W c a) (hw : zWf T a) (ho : zR o) (hq : Q (some (zI (zSet (fun s => decide (aO a s = o)) (a 1).toNat : Nat))) W) : Ev MX0_squaresOf 0 0 W [.ref c, zI o] Q X := by
  refine ev_of (ls := [.ref c, zI o, .null, .null]) (by decide) rfl (fun _ => rfl) (fun _ => Nat.le_of_ble_eq_true rfl) (Or.inl rfl) ?_
  obtain ⟨r0, r1, r2, r3, r4, r5, r6, r7, rF, rS, rP, rB⟩ := id hR
  obtain ⟨w0, w0', wW, w1, w2, w2', w3, w3', w4, w4', w5, w5', w6, w6', w7, w7', wS, wP, wT⟩ := id hw
  have wq := zWf.sq hw
  have loop : ∀ (n : Nat) (i : Int), 1 ≤ i → i ≤ a 1 + 1 → (a 1 + 1 - i).toNat < n → RR MX0_squaresOf 0 0 W 4 [.ref c, zI o, zI (zSet (fun s => decide (aO a s = o)) (i - 1).toNat : Nat), zI i] [] (zEnd MX0_squaresOf Q X) X := by
    intro n
    induction n with
    | zero => intro i _ _ hm9; omega
    | succ n ih =>
      intro i h1 h2 hm9
      refine rr_iload_n (pc := 4) dX0_squaresOf_4 rfl ?_
      refine rr_aload_n (pc := 5) dX0_squaresOf_5 rfl ?_
      refine rr_getI (pc := 6) (ji := 1) dX0_squaresOf_6 fX0_41 hc.k hc.i1 rfl ?_
      refine rr_icmp_gt (pc := 9) (tgt := 34) dX0_squaresOf_9 (by decide) (by unfold zR; omega) (by unfold zR; omega) (fun h9 => ?_) (fun h9 => ?_)
      · refine rr_iload_n (pc := 34) dX0_squaresOf_34 rfl ?_
        exact rr_reti (pc := 35) dX0_squaresOf_35 rfl rfl (by rw [show (i - 1).toNat = (a 1).toNat by omega]) rfl (hq)
      · have hs3 := (rS i h1 (by omega)).2.1
        have hs4 := wS i h1 (by omega)
        refine rr_aload_n (pc := 12) dX0_squaresOf_12 rfl ?_
        refine rr_getR (pc := 13) dX0_squaresOf_13 fX0_18 hc.k hc.r10 ?_
        refine rr_iload_n (pc := 16) dX0_squaresOf_16 rfl ?_
        refine rr_iald (pc := 17) dX0_squaresOf_17 hc.a3 (by omega) (by omega) ?_
        refine rr_eqS (congrArg (fun z => [zI z]) hs3) ?_
        refine rr_iload_n (pc := 18) dX0_squaresOf_18 rfl ?_
        refine rr_icmp_ne (pc := 19) (tgt := 28) dX0_squaresOf_19 (by decide) (by unfold zR; omega) ho (fun h19 => ?_) (fun h19 => ?_)
        · refine rr_iinc (pc := 28) dX0_squaresOf_28 rfl (by decide) ?_
          refine rr_goto (pc := 31) (tgt := 4) dX0_squaresOf_31 (by decide) ?_
          have e9 : (i + 1 - 1).toNat = (i - 1).toNat + 1 := by omega
          have g9 := ih (i + 1) (by omega) (by omega) (by omega)
          rw [e9] at g9
          unfold zSet at g9
          rw [show (((i - 1).toNat + 1 : Nat) : Int) = i by omega, show (i - 1).toNat + 1 = i.toNat by omega] at g9
          revert g9
          first | rw [if_pos (decide_eq_true h19)] | rw [if_neg (fun z => h19 (of_decide_eq_true z))]
          exact fun g9 => g9
        · refine rr_iload_n (pc := 22) dX0_squaresOf_22 rfl ?_
          refine rr_iconst (n := 1) dX0_squaresOf_23 ?_
          refine rr_iload_n (pc := 24) dX0_squaresOf_24 rfl ?_
          refine rr_ishl1 (pc := 25) dX0_squaresOf_25 (by omega) (by omega) ?_
          refine rr_ior (pc := 26) dX0_squaresOf_26 (Nat.lt_trans (zSet_32 _ (by omega)) (by decide)) (z_p32 (by omega)) ?_
          refine rr_istore_n (pc := 27) dX0_squaresOf_27 (by decide) ?_
          refine rr_iinc (pc := 28) dX0_squaresOf_28 rfl (by decide) ?_
          refine rr_goto (pc := 31) (tgt := 4) dX0_squaresOf_31 (by decide) ?_
          have e9 : (i + 1 - 1).toNat = (i - 1).toNat + 1 := by omega
          have g9 := ih (i + 1) (by omega) (by omega) (by omega)
          rw [e9] at g9
          unfold zSet at g9
          rw [show (((i - 1).toNat + 1 : Nat) : Int) = i by omega, show (i - 1).toNat + 1 = i.toNat by omega] at g9
          revert g9
          first | rw [if_pos (decide_eq_true h19)] | rw [if_neg (fun z => h19 (of_decide_eq_true z))]
          exact fun g9 => g9
  refine rr_iconst (n := 0) dX0_squaresOf_0 ?_
  refine rr_istore_n (pc := 1) dX0_squaresOf_1 (by decide) ?_
  refine rr_iconst (n := 1) dX0_squaresOf_2 ?_
  refine rr_istore_n (pc := 3) dX0_squaresOf_3 (by decide) ?_
  exact loop _ 1 (by omega) (by omega) (Nat.lt_succ_self _)
