theorem dX0_get_0 : decode cX0_get 0 = .ok (.aload_n 0, 1) := by decide +kernel
theorem dX0_get_1 : decode cX0_get 1 = .ok (.getfield 24, 3) := by decide +kernel
theorem dX0_get_4 : decode cX0_get 4 = .ok (.iload_n 1, 1) := by decide +kernel
theorem dX0_get_5 : decode cX0_get 5 = .ok (.bipush 10, 2) := by decide +kernel
theorem dX0_get_7 : decode cX0_get 7 = .ok (.imul, 1) := by decide +kernel
theorem dX0_get_8 : decode cX0_get 8 = .ok (.iload_n 2, 1) := by decide +kernel
theorem dX0_get_9 : decode cX0_get 9 = .ok (.iadd, 1) := by decide +kernel
theorem dX0_get_10 : decode cX0_get 10 = .ok (.iaload, 1) := by decide +kernel
theorem dX0_get_11 : decode cX0_get 11 = .ok (.ireturn, 1) := by decide +kernel
theorem eX0_get {c : Nat} {W : zWd} {p w : Int} {Q : Option Value → zWd → Prop} {X : zX} (hc : zCt c) (hp0 : 0 ≤ p) (hp1 : p < 6) (hw0 : 0 ≤ w) (hw1 : w < 10) (hq : Q (some (zI (W (c + 5) (p * 10 + w)))) W) : Ev MX0_get 0 0 W [.ref c, zI p, zI w] Q X := by
  refine ev_of (ls := [.ref c, zI p, zI w]) (by decide) rfl (fun _ => rfl) (fun _ => Nat.le_of_ble_eq_true rfl) (Or.inl rfl) ?_
  refine rr_aload_n (pc := 0) dX0_get_0 rfl ?_
  refine rr_getR (pc := 1) dX0_get_1 fX0_24 hc.k hc.r12 ?_
  refine rr_iload_n (pc := 4) dX0_get_4 rfl ?_
  refine rr_bipush (n := (10)) dX0_get_5 ?_
  refine rr_imul (pc := 7) dX0_get_7 ?_
  refine rr_iload_n (pc := 8) dX0_get_8 rfl ?_
  refine rr_iadd (pc := 9) dX0_get_9 ?_
  refine rr_iald (pc := 10) dX0_get_10 hc.a5 (by omega) (by omega) ?_
  exact rr_reti (pc := 11) dX0_get_11 rfl rfl rfl rfl (hq)
theorem dX0_put_0 : decode cX0_put 0 = .ok (.aload_n 0, 1) := by decide +kernel
theorem dX0_put_1 : decode cX0_put 1 = .ok (.getfield 24, 3) := by decide +kernel
theorem dX0_put_4 : decode cX0_put 4 = .ok (.iload_n 1, 1) := by decide +kernel
theorem dX0_put_5 : decode cX0_put 5 = .ok (.bipush 10, 2) := by decide +kernel
theorem dX0_put_7 : decode cX0_put 7 = .ok (.imul, 1) := by decide +kernel
theorem dX0_put_8 : decode cX0_put 8 = .ok (.iload_n 2, 1) := by decide +kernel
theorem dX0_put_9 : decode cX0_put 9 = .ok (.iadd, 1) := by decide +kernel
theorem dX0_put_10 : decode cX0_put 10 = .ok (.iload_n 3, 1) := by decide +kernel
theorem dX0_put_11 : decode cX0_put 11 = .ok (.iastore, 1) := by decide +kernel
theorem dX0_put_12 : decode cX0_put 12 = .ok (.return_, 1) := by decide +kernel
theorem eX0_put {c : Nat} {W : zWd} {p w v : Int} {Q : Option Value → zWd → Prop} {X : zX} (hc : zCt c) (hp0 : 0 ≤ p) (hp1 : p < 6) (hw0 : 0 ≤ w) (hw1 : w < 10) (hq : Q none (zup W (c + 5) (p * 10 + w) v)) : Ev MX0_put 0 0 W [.ref c, zI p, zI w, zI v] Q X := by
  refine ev_of (ls := [.ref c, zI p, zI w, zI v]) (by decide) rfl (fun _ => rfl) (fun _ => Nat.le_of_ble_eq_true rfl) (Or.inl rfl) ?_
  refine rr_aload_n (pc := 0) dX0_put_0 rfl ?_
  refine rr_getR (pc := 1) dX0_put_1 fX0_24 hc.k hc.r12 ?_
  refine rr_iload_n (pc := 4) dX0_put_4 rfl ?_
  refine rr_bipush (n := (10)) dX0_put_5 ?_
  refine rr_imul (pc := 7) dX0_put_7 ?_
  refine rr_iload_n (pc := 8) dX0_put_8 rfl ?_
  refine rr_iadd (pc := 9) dX0_put_9 ?_
  refine rr_iload_n (pc := 10) dX0_put_10 rfl ?_
  refine rr_iast (pc := 11) dX0_put_11 hc.a5 (by omega) (by omega) ?_
  exact rr_retv (pc := 12) dX0_put_12 rfl rfl (hq)
theorem dX0_widthOf_0 : decode cX0_widthOf 0 = .ok (.aload_n 0, 1) := by decide +kernel
theorem dX0_widthOf_1 : decode cX0_widthOf 1 = .ok (.getfield 9, 3) := by decide +kernel
theorem dX0_widthOf_4 : decode cX0_widthOf 4 = .ok (.iload_n 1, 1) := by decide +kernel
theorem dX0_widthOf_5 : decode cX0_widthOf 5 = .ok (.iconst 1, 1) := by decide +kernel
theorem dX0_widthOf_6 : decode cX0_widthOf 6 = .ok (.iadd, 1) := by decide +kernel
theorem dX0_widthOf_7 : decode cX0_widthOf 7 = .ok (.iaload, 1) := by decide +kernel
theorem dX0_widthOf_8 : decode cX0_widthOf 8 = .ok (.aload_n 0, 1) := by decide +kernel
theorem dX0_widthOf_9 : decode cX0_widthOf 9 = .ok (.getfield 9, 3) := by decide +kernel
theorem dX0_widthOf_12 : decode cX0_widthOf 12 = .ok (.iload_n 1, 1) := by decide +kernel
theorem dX0_widthOf_13 : decode cX0_widthOf 13 = .ok (.iaload, 1) := by decide +kernel
theorem dX0_widthOf_14 : decode cX0_widthOf 14 = .ok (.isub, 1) := by decide +kernel
theorem dX0_widthOf_15 : decode cX0_widthOf 15 = .ok (.ireturn, 1) := by decide +kernel
theorem eX0_widthOf {c : Nat} {W : zWd} {r : Int} {Q : Option Value → zWd → Prop} {X : zX} (hc : zCt c) (h0 : 0 ≤ r) (h1 : r < 10) (hq : Q (some (zI (W (c + 1) (r + 1) - W (c + 1) r))) W) : Ev MX0_widthOf 0 0 W [.ref c, zI r] Q X := by
  refine ev_of (ls := [.ref c, zI r]) (by decide) rfl (fun _ => rfl) (fun _ => Nat.le_of_ble_eq_true rfl) (Or.inl rfl) ?_
  refine rr_aload_n (pc := 0) dX0_widthOf_0 rfl ?_
  refine rr_getR (pc := 1) dX0_widthOf_1 fX0_9 hc.k hc.r8 ?_
  refine rr_iload_n (pc := 4) dX0_widthOf_4 rfl ?_
  refine rr_iconst (n := 1) dX0_widthOf_5 ?_
  refine rr_iadd (pc := 6) dX0_widthOf_6 ?_
  refine rr_iald (pc := 7) dX0_widthOf_7 hc.a1 (by omega) (by omega) ?_
  refine rr_aload_n (pc := 8) dX0_widthOf_8 rfl ?_
  refine rr_getR (pc := 9) dX0_widthOf_9 fX0_9 hc.k hc.r8 ?_
  refine rr_iload_n (pc := 12) dX0_widthOf_12 rfl ?_
  refine rr_iald (pc := 13) dX0_widthOf_13 hc.a1 (by omega) (by omega) ?_
  refine rr_isub (pc := 14) dX0_widthOf_14 ?_
  exact rr_reti (pc := 15) dX0_widthOf_15 rfl rfl rfl rfl (hq)
theorem dX0_sideOf_0 : decode cX0_sideOf 0 = .ok (.iload_n 1, 1) := by decide +kernel
theorem dX0_sideOf_1 : decode cX0_sideOf 1 = .ok (.aload_n 0, 1) := by decide +kernel
theorem dX0_sideOf_2 : decode cX0_sideOf 2 = .ok (.getfield 9, 3) := by decide +kernel
theorem dX0_sideOf_5 : decode cX0_sideOf 5 = .ok (.aload_n 0, 1) := by decide +kernel
theorem dX0_sideOf_6 : decode cX0_sideOf 6 = .ok (.getfield 15, 3) := by decide +kernel
theorem dX0_sideOf_9 : decode cX0_sideOf 9 = .ok (.iload_n 1, 1) := by decide +kernel
theorem dX0_sideOf_10 : decode cX0_sideOf 10 = .ok (.iaload, 1) := by decide +kernel
theorem dX0_sideOf_11 : decode cX0_sideOf 11 = .ok (.iaload, 1) := by decide +kernel
theorem dX0_sideOf_12 : decode cX0_sideOf 12 = .ok (.isub, 1) := by decide +kernel
theorem dX0_sideOf_13 : decode cX0_sideOf 13 = .ok (.ireturn, 1) := by decide +kernel
theorem eX0_sideOf {c : Nat} {W : zWd} {a : Int → Int} {T : Int} {s : Int} {Q : Option Value → zWd → Prop} {X : zX} (hc : zCt c) (hR : zCR W c a) (hw : zWf T a) (h0 : 1 ≤ s) (h1 : s ≤ a 1) (hq : Q (some (zI (s - aF a (aR a s)))) W) : Ev MX0_sideOf 0 0 W [.ref c, zI s] Q X := by
  refine ev_of (ls := [.ref c, zI s]) (by decide) rfl (fun _ => rfl) (fun _ => Nat.le_of_ble_eq_true rfl) (Or.inl rfl) ?_
  obtain ⟨r0, r1, r2, r3, r4, r5, r6, r7, rF, rS, rP, rB⟩ := id hR
  obtain ⟨w0, w0', wW, w1, w2, w2', w3, w3', w4, w4', w5, w5', w6, w6', w7, w7', wS, wP, wT⟩ := id hw
  have wq := zWf.sq hw
  have hr := aR_spec hw h0 h1
  have hs1 := (rS s h0 (by omega) h1).1
  refine rr_iload_n (pc := 0) dX0_sideOf_0 rfl ?_
  refine rr_aload_n (pc := 1) dX0_sideOf_1 rfl ?_
  refine rr_getR (pc := 2) dX0_sideOf_2 fX0_9 hc.k hc.r8 ?_
  refine rr_aload_n (pc := 5) dX0_sideOf_5 rfl ?_
  refine rr_getR (pc := 6) dX0_sideOf_6 fX0_15 hc.k hc.r9 ?_
  refine rr_iload_n (pc := 9) dX0_sideOf_9 rfl ?_
  refine rr_iald (pc := 10) dX0_sideOf_10 hc.a2 (by omega) (by omega) ?_
  refine rr_iald (pc := 11) dX0_sideOf_11 hc.a1 (by omega) (by omega) ?_
  refine rr_isub (pc := 12) dX0_sideOf_12 ?_
  exact rr_reti (pc := 13) dX0_sideOf_13 rfl rfl (by rw [hs1, rF _ (by omega) (by omega)]) rfl (hq)
theorem ite_zI {P : Prop} [Decidable P] {Q : Option Value → zWd → Prop} {W : zWd} {x y : Int} (h : P) (hq : Q (some (zI (if P then x else y))) W) : Q (some (zI x)) W := by rw [if_pos h] at hq; exact hq
theorem ite_zI2 {P : Prop} [Decidable P] {Q : Option Value → zWd → Prop} {W : zWd} {x y : Int} (h : ¬ P) (hq : Q (some (zI (if P then x else y))) W) : Q (some (zI y)) W := by rw [if_neg h] at hq; exact hq
theorem dX0_isForbidden_0 : decode cX0_isForbidden 0 = .ok (.aload_n 0, 1) := by decide +kernel
theorem dX0_isForbidden_1 : decode cX0_isForbidden 1 = .ok (.getfield 18, 3) := by decide +kernel
theorem dX0_isForbidden_4 : decode cX0_isForbidden 4 = .ok (.iload_n 2, 1) := by decide +kernel
theorem dX0_isForbidden_5 : decode cX0_isForbidden 5 = .ok (.iaload, 1) := by decide +kernel
theorem dX0_isForbidden_6 : decode cX0_isForbidden 6 = .ok (.iconst (-1), 1) := by decide +kernel
theorem dX0_isForbidden_7 : decode cX0_isForbidden 7 = .ok (.if_icmp .eq 17, 3) := by decide +kernel
theorem dX0_isForbidden_10 : decode cX0_isForbidden 10 = .ok (.aload_n 0, 1) := by decide +kernel
theorem dX0_isForbidden_11 : decode cX0_isForbidden 11 = .ok (.getfield 18, 3) := by decide +kernel
theorem dX0_isForbidden_14 : decode cX0_isForbidden 14 = .ok (.iload_n 2, 1) := by decide +kernel
theorem dX0_isForbidden_15 : decode cX0_isForbidden 15 = .ok (.iaload, 1) := by decide +kernel
theorem dX0_isForbidden_16 : decode cX0_isForbidden 16 = .ok (.iload_n 1, 1) := by decide +kernel
theorem dX0_isForbidden_17 : decode cX0_isForbidden 17 = .ok (.if_icmp .eq 7, 3) := by decide +kernel
theorem dX0_isForbidden_20 : decode cX0_isForbidden 20 = .ok (.iconst 1, 1) := by decide +kernel
theorem dX0_isForbidden_21 : decode cX0_isForbidden 21 = .ok (.goto 4, 3) := by decide +kernel
theorem dX0_isForbidden_24 : decode cX0_isForbidden 24 = .ok (.iconst 0, 1) := by decide +kernel
theorem dX0_isForbidden_25 : decode cX0_isForbidden 25 = .ok (.ireturn, 1) := by decide +kernel
theorem eX0_isForbidden {c : Nat} {W : zWd} {a : Int → Int} {T : Int} {q s : Int} {Q : Option Value → zWd → Prop} {X : zX} (hc : zCt c) (hR : zCR W c a) (hw : zWf T a) (h0 : 1 ≤ s) (h1 : s ≤ a 1) (hq0 : zR q) (hq : Q (some (zI (if aForb a q s then 1 else 0))) W) : Ev MX0_isForbidden 0 0 W [.ref c, zI q, zI s] Q X := by
  refine ev_of (ls := [.ref c, zI q, zI s]) (by decide) rfl (fun _ => rfl) (fun _ => Nat.le_of_ble_eq_true rfl) (Or.inl rfl) ?_
  obtain ⟨r0, r1, r2, r3, r4, r5, r6, r7, rF, rS, rP, rB⟩ := id hR
  obtain ⟨w0, w0', wW, w1, w2, w2', w3, w3', w4, w4', w5, w5', w6, w6', w7, w7', wS, wP, wT⟩ := id hw
  have wq := zWf.sq hw
  have hs3 := (rS s h0 (by omega) h1).2.1
  have hs4 := wS s h0 h1
  unfold zR at hq0
  refine rr_aload_n (pc := 0) dX0_isForbidden_0 rfl ?_
  refine rr_getR (pc := 1) dX0_isForbidden_1 fX0_18 hc.k hc.r10 ?_
  refine rr_iload_n (pc := 4) dX0_isForbidden_4 rfl ?_
  refine rr_iald (pc := 5) dX0_isForbidden_5 hc.a3 (by omega) (by omega) ?_
  refine rr_iconst (n := (-1)) dX0_isForbidden_6 ?_
  refine rr_icmp_eq (pc := 7) (tgt := 24) dX0_isForbidden_7 (by decide) (by unfold zR; omega) (by unfold zR; omega) (fun h7 => ?_) (fun h7 => ?_)
  · refine rr_iconst (n := 0) dX0_isForbidden_24 ?_
    exact rr_reti (pc := 25) dX0_isForbidden_25 rfl rfl rfl rfl ((by first | exact ite_zI (P := aForb a q s) (by unfold aForb; omega) hq | exact ite_zI2 (P := aForb a q s) (by unfold aForb; omega) hq))
  · refine rr_aload_n (pc := 10) dX0_isForbidden_10 rfl ?_
    refine rr_getR (pc := 11) dX0_isForbidden_11 fX0_18 hc.k hc.r10 ?_
    refine rr_iload_n (pc := 14) dX0_isForbidden_14 rfl ?_
    refine rr_iald (pc := 15) dX0_isForbidden_15 hc.a3 (by omega) (by omega) ?_
    refine rr_iload_n (pc := 16) dX0_isForbidden_16 rfl ?_
    refine rr_icmp_eq (pc := 17) (tgt := 24) dX0_isForbidden_17 (by decide) (by unfold zR; omega) (by unfold zR; omega) (fun h17 => ?_) (fun h17 => ?_)
    · refine rr_iconst (n := 0) dX0_isForbidden_24 ?_
      exact rr_reti (pc := 25) dX0_isForbidden_25 rfl rfl rfl rfl ((by first | exact ite_zI (P := aForb a q s) (by unfold aForb; omega) hq | exact ite_zI2 (P := aForb a q s) (by unfold aForb; omega) hq))
    · refine rr_iconst (n := 1) dX0_isForbidden_20 ?_
      refine rr_goto (pc := 21) (tgt := 25) dX0_isForbidden_21 (by decide) ?_
      exact rr_reti (pc := 25) dX0_isForbidden_25 rfl rfl rfl rfl ((by first | exact ite_zI (P := aForb a q s) (by unfold aForb; omega) hq | exact ite_zI2 (P := aForb a q s) (by unfold aForb; omega) hq))
theorem dX0_squaresOf_0 : decode cX0_squaresOf 0 = .ok (.iconst 0, 1) := by decide +kernel
theorem dX0_squaresOf_1 : decode cX0_squaresOf 1 = .ok (.istore_n 2, 1) := by decide +kernel
theorem dX0_squaresOf_2 : decode cX0_squaresOf 2 = .ok (.iconst 1, 1) := by decide +kernel
theorem dX0_squaresOf_3 : decode cX0_squaresOf 3 = .ok (.istore_n 3, 1) := by decide +kernel
theorem dX0_squaresOf_4 : decode cX0_squaresOf 4 = .ok (.iload_n 3, 1) := by decide +kernel
theorem dX0_squaresOf_5 : decode cX0_squaresOf 5 = .ok (.aload_n 0, 1) := by decide +kernel
theorem dX0_squaresOf_6 : decode cX0_squaresOf 6 = .ok (.getfield 41, 3) := by decide +kernel
theorem dX0_squaresOf_9 : decode cX0_squaresOf 9 = .ok (.if_icmp .gt 25, 3) := by decide +kernel
theorem dX0_squaresOf_12 : decode cX0_squaresOf 12 = .ok (.aload_n 0, 1) := by decide +kernel
theorem dX0_squaresOf_13 : decode cX0_squaresOf 13 = .ok (.getfield 18, 3) := by decide +kernel
theorem dX0_squaresOf_16 : decode cX0_squaresOf 16 = .ok (.iload_n 3, 1) := by decide +kernel
theorem dX0_squaresOf_17 : decode cX0_squaresOf 17 = .ok (.iaload, 1) := by decide +kernel
theorem dX0_squaresOf_18 : decode cX0_squaresOf 18 = .ok (.iload_n 1, 1) := by decide +kernel
theorem dX0_squaresOf_19 : decode cX0_squaresOf 19 = .ok (.if_icmp .ne 9, 3) := by decide +kernel
theorem dX0_squaresOf_22 : decode cX0_squaresOf 22 = .ok (.iload_n 2, 1) := by decide +kernel
theorem dX0_squaresOf_23 : decode cX0_squaresOf 23 = .ok (.iconst 1, 1) := by decide +kernel
theorem dX0_squaresOf_24 : decode cX0_squaresOf 24 = .ok (.iload_n 3, 1) := by decide +kernel
theorem dX0_squaresOf_25 : decode cX0_squaresOf 25 = .ok (.ishl, 1) := by decide +kernel
theorem dX0_squaresOf_26 : decode cX0_squaresOf 26 = .ok (.ior, 1) := by decide +kernel
theorem dX0_squaresOf_27 : decode cX0_squaresOf 27 = .ok (.istore_n 2, 1) := by decide +kernel
theorem dX0_squaresOf_28 : decode cX0_squaresOf 28 = .ok (.iinc 3 1, 3) := by decide +kernel
theorem dX0_squaresOf_31 : decode cX0_squaresOf 31 = .ok (.goto (-27), 3) := by decide +kernel
theorem dX0_squaresOf_34 : decode cX0_squaresOf 34 = .ok (.iload_n 2, 1) := by decide +kernel
theorem dX0_squaresOf_35 : decode cX0_squaresOf 35 = .ok (.ireturn, 1) := by decide +kernel
theorem eX0_squaresOf {c : Nat} {W : zWd} {a : Int → Int} {T : Int} {o : Int} {Q : Option Value → zWd → Prop} {X : zX} (hc : zCt c) (hR : zCR W c a) (hw : zWf T a) (ho : zR o) (hq : Q (some (zI (zSet (fun s => decide (aO a s = o)) (a 1).toNat : Nat))) W) : Ev MX0_squaresOf 0 0 W [.ref c, zI o] Q X := by
  refine ev_of (ls := [.ref c, zI o, .null, .null]) (by decide) rfl (fun _ => rfl) (fun _ => Nat.le_of_ble_eq_true rfl) (Or.inl rfl) ?_
  obtain ⟨r0, r1, r2, r3, r4, r5, r6, r7, rF, rS, rP, rB⟩ := id hR
  obtain ⟨w0, w0', wW, w1, w2, w2', w3, w3', w4, w4', w5, w5', w6, w6', w7, w7', wS, wP, wT⟩ := id hw
  have wq := zWf.sq hw
  have loop : ∀ (n : Nat) (i : Int), 1 ≤ i → i ≤ a 1 + 1 → (a 1 + 1 - i).toNat < n → RR MX0_squaresOf 0 0 W 4 [.ref c, zI o, zI (zSet (fun s => decide (aO a s = o)) (i - 1).toNat : Nat), zI i] [] (zEnd MX0_squaresOf Q X) X := by
    intro n
    induction n with
    | zero => intro i _ _ hm9; omega
    | succ n ih =>
      intro i h1 h2 hm9
      refine rr_iload_n (pc := 4) dX0_squaresOf_4 rfl ?_
      refine rr_aload_n (pc := 5) dX0_squaresOf_5 rfl ?_
      refine rr_getI (pc := 6) (ji := 1) dX0_squaresOf_6 fX0_41 hc.k hc.i1 rfl ?_
      refine rr_icmp_gt (pc := 9) (tgt := 34) dX0_squaresOf_9 (by decide) (by unfold zR; omega) (by unfold zR; omega) (fun h9 => ?_) (fun h9 => ?_)
      · refine rr_iload_n (pc := 34) dX0_squaresOf_34 rfl ?_
        exact rr_reti (pc := 35) dX0_squaresOf_35 rfl rfl (by rw [show (i - 1).toNat = (a 1).toNat by omega]) rfl (hq)
      · have hs3 := (rS i h1 (by omega) (by omega)).2.1
        have hs4 := wS i h1 (by omega)
        refine rr_aload_n (pc := 12) dX0_squaresOf_12 rfl ?_
        refine rr_getR (pc := 13) dX0_squaresOf_13 fX0_18 hc.k hc.r10 ?_
        refine rr_iload_n (pc := 16) dX0_squaresOf_16 rfl ?_
        refine rr_iald (pc := 17) dX0_squaresOf_17 hc.a3 (by omega) (by omega) ?_
        refine rr_eqS (congrArg (fun z => [zI z]) hs3) ?_
        refine rr_iload_n (pc := 18) dX0_squaresOf_18 rfl ?_
        refine rr_icmp_ne (pc := 19) (tgt := 28) dX0_squaresOf_19 (by decide) (by unfold zR; omega) ho (fun h19 => ?_) (fun h19 => ?_)
        · refine rr_iinc (pc := 28) dX0_squaresOf_28 rfl (by decide) ?_
          refine rr_goto (pc := 31) (tgt := 4) dX0_squaresOf_31 (by decide) ?_
          have e9 : (i + 1 - 1).toNat = (i - 1).toNat + 1 := by omega
          have g9 := ih (i + 1) (by omega) (by omega) (by omega)
          rw [e9] at g9
          unfold zSet at g9
          rw [show (((i - 1).toNat + 1 : Nat) : Int) = i by omega, show (i - 1).toNat + 1 = i.toNat by omega] at g9
          revert g9
          first | rw [if_pos (decide_eq_true h19)] | rw [if_neg (fun z => h19 (of_decide_eq_true z))]
          exact fun g9 => g9
        · refine rr_iload_n (pc := 22) dX0_squaresOf_22 rfl ?_
          refine rr_iconst (n := 1) dX0_squaresOf_23 ?_
          refine rr_iload_n (pc := 24) dX0_squaresOf_24 rfl ?_
          refine rr_ishl1 (pc := 25) dX0_squaresOf_25 (by omega) (by omega) ?_
          refine rr_ior (pc := 26) dX0_squaresOf_26 (Nat.lt_trans (zSet_32 _ (by omega)) (by decide)) (z_p32 (by omega)) ?_
          refine rr_istore_n (pc := 27) dX0_squaresOf_27 (by decide) ?_
          refine rr_iinc (pc := 28) dX0_squaresOf_28 rfl (by decide) ?_
          refine rr_goto (pc := 31) (tgt := 4) dX0_squaresOf_31 (by decide) ?_
          have e9 : (i + 1 - 1).toNat = (i - 1).toNat + 1 := by omega
          have g9 := ih (i + 1) (by omega) (by omega) (by omega)
          rw [e9] at g9
          unfold zSet at g9
          rw [show (((i - 1).toNat + 1 : Nat) : Int) = i by omega, show (i - 1).toNat + 1 = i.toNat by omega] at g9
          revert g9
          first | rw [if_pos (decide_eq_true h19)] | rw [if_neg (fun z => h19 (of_decide_eq_true z))]
          exact fun g9 => g9
  refine rr_iconst (n := 0) dX0_squaresOf_0 ?_
  refine rr_istore_n (pc := 1) dX0_squaresOf_1 (by decide) ?_
  refine rr_iconst (n := 1) dX0_squaresOf_2 ?_
  refine rr_istore_n (pc := 3) dX0_squaresOf_3 (by decide) ?_
  exact loop _ 1 (by omega) (by omega) (Nat.lt_succ_self _)
theorem dX0_ownedSquares_0 : decode cX0_ownedSquares 0 = .ok (.aload_n 0, 1) := by decide +kernel
theorem dX0_ownedSquares_1 : decode cX0_ownedSquares 1 = .ok (.getfield 41, 3) := by decide +kernel
theorem dX0_ownedSquares_4 : decode cX0_ownedSquares 4 = .ok (.aload_n 0, 1) := by decide +kernel
theorem dX0_ownedSquares_5 : decode cX0_ownedSquares 5 = .ok (.iconst (-1), 1) := by decide +kernel
theorem dX0_ownedSquares_6 : decode cX0_ownedSquares 6 = .ok (.invokevirtual 72, 3) := by decide +kernel
theorem dX0_ownedSquares_9 : decode cX0_ownedSquares 9 = .ok (.invokestatic 76, 3) := by decide +kernel
theorem dX0_ownedSquares_12 : decode cX0_ownedSquares 12 = .ok (.isub, 1) := by decide +kernel
theorem dX0_ownedSquares_13 : decode cX0_ownedSquares 13 = .ok (.ireturn, 1) := by decide +kernel
theorem eX0_ownedSquares {c : Nat} {W : zWd} {a : Int → Int} {T : Int}  {Q : Option Value → zWd → Prop} {X : zX} (hc : zCt c) (hR : zCR W c a) (hw : zWf T a) (hq : Q (some (zI (a 1 - (aNown a (-1) : Nat)))) W) : Ev MX0_ownedSquares 2 0 W [.ref c] Q X := by
  refine ev_of (ls := [.ref c]) (by decide) rfl (fun _ => rfl) (fun _ => Nat.le_of_ble_eq_true rfl) (Or.inl rfl) ?_
  obtain ⟨r0, r1, r2, r3, r4, r5, r6, r7, rF, rS, rP, rB⟩ := id hR
  obtain ⟨w0, w0', wW, w1, w2, w2', w3, w3', w4, w4', w5, w5', w6, w6', w7, w7', wS, wP, wT⟩ := id hw
  have wq := zWf.sq hw
  refine rr_aload_n (pc := 0) dX0_ownedSquares_0 rfl ?_
  refine rr_getI (pc := 1) (ji := 1) dX0_ownedSquares_1 fX0_41 hc.k hc.i1 rfl ?_
  refine rr_aload_n (pc := 4) dX0_ownedSquares_4 rfl ?_
  refine rr_iconst (n := (-1)) dX0_ownedSquares_5 ?_
  refine rr_inv0 (M' := MX0_squaresOf) (k := c) (As := [_]) (pc := 6) dX0_ownedSquares_6 lX0_72 kX0_squaresOf vX0_squaresOf hc.k (by decide) rfl (by decide) (by decide) (Nat.le_of_ble_eq_true rfl) rfl (eX0_squaresOf hc hR hw (by unfold zR; omega) ?_)
  refine rr_sta0 (M' := MJ6_bitCount_0f7a4) (As := [_]) (pc := 9) dX0_ownedSquares_9 lX0_76 kJ6_bitCount_0f7a4 sJ6_bitCount_0f7a4 (by decide) (by decide) (Nat.le_of_ble_eq_true rfl) rfl (eJ6_bitCount (zSet_32 _ (by omega)) ?_)
  rw [zPc_21 (zSet_32 _ (by omega))]
  refine rr_isub (pc := 12) dX0_ownedSquares_12 ?_
  exact rr_reti (pc := 13) dX0_ownedSquares_13 rfl rfl (by rw [r1]; rfl) rfl (hq)
theorem zBits_le (n : Nat) : ∀ k, zBits n k ≤ k := by
  intro k
  induction k with
  | zero => exact Nat.le_refl _
  | succ k ih => show zBits n k + n / 2 ^ k % 2 ≤ k + 1; omega
theorem aNown_le (a : Int → Int) (q : Int) (h : a 1 ≤ 20) : aNown a q ≤ 21 := zBits_le _ 21
theorem aRich_le {a : Int → Int} (h : a 1 ≤ 20) : ∀ n : Nat, -1 ≤ (aRich a n).1 ∧ (aRich a n).1 < n ∧ 0 ≤ (aRich a n).2 ∧ (aRich a n).2 ≤ 21 := by
  intro n
  induction n with
  | zero => show (-1 : Int) ≤ -1 ∧ (-1 : Int) < 0 ∧ (0 : Int) ≤ 0 ∧ (0 : Int) ≤ 21; omega
  | succ n ih =>
    unfold aRich
    have h9 := aNown_le a n h
    split
    · show -1 ≤ (n : Int) ∧ (n : Int) < ((n + 1 : Nat) : Int) ∧ 0 ≤ (aNown a n : Int) ∧ (aNown a n : Int) ≤ 21
      omega
    · omega
theorem dX0_richest_0 : decode cX0_richest 0 = .ok (.iconst (-1), 1) := by decide +kernel
theorem dX0_richest_1 : decode cX0_richest 1 = .ok (.istore_n 1, 1) := by decide +kernel
theorem dX0_richest_2 : decode cX0_richest 2 = .ok (.iconst 0, 1) := by decide +kernel
theorem dX0_richest_3 : decode cX0_richest 3 = .ok (.istore_n 2, 1) := by decide +kernel
theorem dX0_richest_4 : decode cX0_richest 4 = .ok (.iconst 0, 1) := by decide +kernel
theorem dX0_richest_5 : decode cX0_richest 5 = .ok (.istore_n 3, 1) := by decide +kernel
theorem dX0_richest_6 : decode cX0_richest 6 = .ok (.iload_n 3, 1) := by decide +kernel
theorem dX0_richest_7 : decode cX0_richest 7 = .ok (.aload_n 0, 1) := by decide +kernel
theorem dX0_richest_8 : decode cX0_richest 8 = .ok (.getfield 44, 3) := by decide +kernel
theorem dX0_richest_11 : decode cX0_richest 11 = .ok (.if_icmp .ge 30, 3) := by decide +kernel
theorem dX0_richest_14 : decode cX0_richest 14 = .ok (.aload_n 0, 1) := by decide +kernel
theorem dX0_richest_15 : decode cX0_richest 15 = .ok (.iload_n 3, 1) := by decide +kernel
theorem dX0_richest_16 : decode cX0_richest 16 = .ok (.invokevirtual 72, 3) := by decide +kernel
theorem dX0_richest_19 : decode cX0_richest 19 = .ok (.invokestatic 76, 3) := by decide +kernel
theorem dX0_richest_22 : decode cX0_richest 22 = .ok (.istore 4, 2) := by decide +kernel
theorem dX0_richest_24 : decode cX0_richest 24 = .ok (.iload 4, 2) := by decide +kernel
theorem dX0_richest_26 : decode cX0_richest 26 = .ok (.iload_n 2, 1) := by decide +kernel
theorem dX0_richest_27 : decode cX0_richest 27 = .ok (.if_icmp .le 8, 3) := by decide +kernel
theorem dX0_richest_30 : decode cX0_richest 30 = .ok (.iload_n 3, 1) := by decide +kernel
theorem dX0_richest_31 : decode cX0_richest 31 = .ok (.istore_n 1, 1) := by decide +kernel
theorem dX0_richest_32 : decode cX0_richest 32 = .ok (.iload 4, 2) := by decide +kernel
theorem dX0_richest_34 : decode cX0_richest 34 = .ok (.istore_n 2, 1) := by decide +kernel
theorem dX0_richest_35 : decode cX0_richest 35 = .ok (.iinc 3 1, 3) := by decide +kernel
theorem dX0_richest_38 : decode cX0_richest 38 = .ok (.goto (-32), 3) := by decide +kernel
theorem dX0_richest_41 : decode cX0_richest 41 = .ok (.iload_n 1, 1) := by decide +kernel
theorem dX0_richest_42 : decode cX0_richest 42 = .ok (.ireturn, 1) := by decide +kernel
theorem eX0_richest {c : Nat} {W : zWd} {a : Int → Int} {T : Int}  {Q : Option Value → zWd → Prop} {X : zX} (hc : zCt c) (hR : zCR W c a) (hw : zWf T a) (hq : Q (some (zI (aRich a (a 2).toNat).1)) W) : Ev MX0_richest 3 0 W [.ref c] Q X := by
  refine ev_of (ls := [.ref c, .null, .null, .null, .null]) (by decide) rfl (fun _ => rfl) (fun _ => Nat.le_of_ble_eq_true rfl) (Or.inl rfl) ?_
  obtain ⟨r0, r1, r2, r3, r4, r5, r6, r7, rF, rS, rP, rB⟩ := id hR
  obtain ⟨w0, w0', wW, w1, w2, w2', w3, w3', w4, w4', w5, w5', w6, w6', w7, w7', wS, wP, wT⟩ := id hw
  have wq := zWf.sq hw
  have loop : ∀ (n : Nat) (i : Int) (v4 : Value), 0 ≤ i → i ≤ a 2 → (a 2 - i).toNat < n → RR MX0_richest 3 0 W 6 [.ref c, zI (aRich a i.toNat).1, zI (aRich a i.toNat).2, zI i, v4] [] (zEnd MX0_richest Q X) X := by
    intro n
    induction n with
    | zero => intro i v4 _ _ hm9; omega
    | succ n ih =>
      intro i v4 h1 h2 hm9
      refine rr_iload_n (pc := 6) dX0_richest_6 rfl ?_
      refine rr_aload_n (pc := 7) dX0_richest_7 rfl ?_
      refine rr_getI (pc := 8) (ji := 2) dX0_richest_8 fX0_44 hc.k hc.i2 rfl ?_
      refine rr_icmp_ge (pc := 11) (tgt := 41) dX0_richest_11 (by decide) (by unfold zR; omega) (by unfold zR; omega) (fun h11 => ?_) (fun h11 => ?_)
      · refine rr_iload_n (pc := 41) dX0_richest_41 rfl ?_
        exact rr_reti (pc := 42) dX0_richest_42 rfl rfl (by rw [show i = a 2 by omega]) rfl (hq)
      · refine rr_aload_n (pc := 14) dX0_richest_14 rfl ?_
        refine rr_iload_n (pc := 15) dX0_richest_15 rfl ?_
        refine rr_inv0 (M' := MX0_squaresOf) (k := c) (As := [_]) (pc := 16) dX0_richest_16 lX0_72 kX0_squaresOf vX0_squaresOf hc.k (by decide) rfl (by decide) (by decide) (Nat.le_of_ble_eq_true rfl) rfl (eX0_squaresOf hc hR hw (by unfold zR; omega) ?_)
        refine rr_sta0 (M' := MJ6_bitCount_0f7a4) (As := [_]) (pc := 19) dX0_richest_19 lX0_76 kJ6_bitCount_0f7a4 sJ6_bitCount_0f7a4 (by decide) (by decide) (Nat.le_of_ble_eq_true rfl) rfl (eJ6_bitCount (zSet_32 _ (by omega)) ?_)
        rw [zPc_21 (zSet_32 _ (by omega))]
        show RR _ _ _ _ _ _ (zI (aNown a i : Nat) :: []) _ _
        have hb9 := aNown_le a i (by omega)
        have hb8 := aRich_le (a := a) (by omega) i.toNat
        refine rr_istore (pc := 22) dX0_richest_22 (by decide) ?_
        refine rr_iload (pc := 24) dX0_richest_24 rfl ?_
        refine rr_iload_n (pc := 26) dX0_richest_26 rfl ?_
        refine rr_icmp_le (pc := 27) (tgt := 35) dX0_richest_27 (by decide) (by unfold zR; omega) (by unfold zR; omega) (fun h27 => ?_) (fun h27 => ?_)
        · refine rr_iinc (pc := 35) dX0_richest_35 rfl (by decide) ?_
          refine rr_goto (pc := 38) (tgt := 6) dX0_richest_38 (by decide) ?_
          have g9 := ih (i + 1) (zI (aNown a i : Nat)) (by omega) (by omega) (by omega)
          rw [show (i + 1).toNat = i.toNat + 1 by omega] at g9
          unfold aRich at g9
          rw [show ((i.toNat : Nat) : Int) = i by omega] at g9
          revert g9
          first | rw [if_pos h27] | rw [if_neg (by omega)]
          exact fun g9 => g9
        · refine rr_iload_n (pc := 30) dX0_richest_30 rfl ?_
          refine rr_istore_n (pc := 31) dX0_richest_31 (by decide) ?_
          refine rr_iload (pc := 32) dX0_richest_32 rfl ?_
          refine rr_istore_n (pc := 34) dX0_richest_34 (by decide) ?_
          refine rr_iinc (pc := 35) dX0_richest_35 rfl (by decide) ?_
          refine rr_goto (pc := 38) (tgt := 6) dX0_richest_38 (by decide) ?_
          have g9 := ih (i + 1) (zI (aNown a i : Nat)) (by omega) (by omega) (by omega)
          rw [show (i + 1).toNat = i.toNat + 1 by omega] at g9
          unfold aRich at g9
          rw [show ((i.toNat : Nat) : Int) = i by omega] at g9
          revert g9
          first | rw [if_pos h27] | rw [if_neg (by omega)]
          exact fun g9 => g9
  refine rr_iconst (n := (-1)) dX0_richest_0 ?_
  refine rr_istore_n (pc := 1) dX0_richest_1 (by decide) ?_
  refine rr_iconst (n := 0) dX0_richest_2 ?_
  refine rr_istore_n (pc := 3) dX0_richest_3 (by decide) ?_
  refine rr_iconst (n := 0) dX0_richest_4 ?_
  refine rr_istore_n (pc := 5) dX0_richest_5 (by decide) ?_
  exact loop _ 0 .null (by omega) (by omega) (Nat.lt_succ_self _)
theorem dX0_lyingMarkers_0 : decode cX0_lyingMarkers 0 = .ok (.iconst 0, 1) := by decide +kernel
theorem dX0_lyingMarkers_1 : decode cX0_lyingMarkers 1 = .ok (.istore_n 1, 1) := by decide +kernel
theorem dX0_lyingMarkers_2 : decode cX0_lyingMarkers 2 = .ok (.iconst 0, 1) := by decide +kernel
theorem dX0_lyingMarkers_3 : decode cX0_lyingMarkers 3 = .ok (.istore_n 2, 1) := by decide +kernel
theorem dX0_lyingMarkers_4 : decode cX0_lyingMarkers 4 = .ok (.iload_n 2, 1) := by decide +kernel
theorem dX0_lyingMarkers_5 : decode cX0_lyingMarkers 5 = .ok (.aload_n 0, 1) := by decide +kernel
theorem dX0_lyingMarkers_6 : decode cX0_lyingMarkers 6 = .ok (.getfield 44, 3) := by decide +kernel
theorem dX0_lyingMarkers_9 : decode cX0_lyingMarkers 9 = .ok (.if_icmp .ge 22, 3) := by decide +kernel
theorem dX0_lyingMarkers_12 : decode cX0_lyingMarkers 12 = .ok (.aload_n 0, 1) := by decide +kernel
theorem dX0_lyingMarkers_13 : decode cX0_lyingMarkers 13 = .ok (.iload_n 2, 1) := by decide +kernel
theorem dX0_lyingMarkers_14 : decode cX0_lyingMarkers 14 = .ok (.iconst 5, 1) := by decide +kernel
theorem dX0_lyingMarkers_15 : decode cX0_lyingMarkers 15 = .ok (.invokevirtual 81, 3) := by decide +kernel
theorem dX0_lyingMarkers_18 : decode cX0_lyingMarkers 18 = .ok (.iconst (-1), 1) := by decide +kernel
theorem dX0_lyingMarkers_19 : decode cX0_lyingMarkers 19 = .ok (.if_icmp .eq 6, 3) := by decide +kernel
theorem dX0_lyingMarkers_22 : decode cX0_lyingMarkers 22 = .ok (.iinc 1 1, 3) := by decide +kernel
theorem dX0_lyingMarkers_25 : decode cX0_lyingMarkers 25 = .ok (.iinc 2 1, 3) := by decide +kernel
theorem dX0_lyingMarkers_28 : decode cX0_lyingMarkers 28 = .ok (.goto (-24), 3) := by decide +kernel
theorem dX0_lyingMarkers_31 : decode cX0_lyingMarkers 31 = .ok (.iload_n 1, 1) := by decide +kernel
theorem dX0_lyingMarkers_32 : decode cX0_lyingMarkers 32 = .ok (.ireturn, 1) := by decide +kernel
theorem eX0_lyingMarkers {c : Nat} {W : zWd} {a : Int → Int} {T : Int}  {Q : Option Value → zWd → Prop} {X : zX} (hc : zCt c) (hR : zCR W c a) (hw : zWf T a) (hq : Q (some (zI (zCnt (fun q : Nat => decide (aP a q 5 ≠ 0)) (a 2).toNat : Nat))) W) : Ev MX0_lyingMarkers 1 0 W [.ref c] Q X := by
  refine ev_of (ls := [.ref c, .null, .null]) (by decide) rfl (fun _ => rfl) (fun _ => Nat.le_of_ble_eq_true rfl) (Or.inl rfl) ?_
  obtain ⟨r0, r1, r2, r3, r4, r5, r6, r7, rF, rS, rP, rB⟩ := id hR
  obtain ⟨w0, w0', wW, w1, w2, w2', w3, w3', w4, w4', w5, w5', w6, w6', w7, w7', wS, wP, wT⟩ := id hw
  have wq := zWf.sq hw
  have loop : ∀ (n : Nat) (i : Int), 0 ≤ i → i ≤ a 2 → (a 2 - i).toNat < n → RR MX0_lyingMarkers 1 0 W 4 [.ref c, zI (zCnt (fun q : Nat => decide (aP a q 5 ≠ 0)) i.toNat : Nat), zI i] [] (zEnd MX0_lyingMarkers Q X) X := by
    intro n
    induction n with
    | zero => intro i _ _ hm9; omega
    | succ n ih =>
      intro i h1 h2 hm9
      refine rr_iload_n (pc := 4) dX0_lyingMarkers_4 rfl ?_
      refine rr_aload_n (pc := 5) dX0_lyingMarkers_5 rfl ?_
      refine rr_getI (pc := 6) (ji := 2) dX0_lyingMarkers_6 fX0_44 hc.k hc.i2 rfl ?_
      refine rr_icmp_ge (pc := 9) (tgt := 31) dX0_lyingMarkers_9 (by decide) (by unfold zR; omega) (by unfold zR; omega) (fun h9 => ?_) (fun h9 => ?_)
      · refine rr_iload_n (pc := 31) dX0_lyingMarkers_31 rfl ?_
        exact rr_reti (pc := 32) dX0_lyingMarkers_32 rfl rfl (by rw [show i = a 2 by omega]) rfl (hq)
      · refine rr_aload_n (pc := 12) dX0_lyingMarkers_12 rfl ?_
        refine rr_iload_n (pc := 13) dX0_lyingMarkers_13 rfl ?_
        refine rr_iconst (n := 5) dX0_lyingMarkers_14 ?_
        refine rr_inv0 (M' := MX0_get) (k := c) (As := [_, _]) (pc := 15) dX0_lyingMarkers_15 lX0_81 kX0_get vX0_get hc.k (by decide) rfl (by decide) (by decide) (Nat.le_of_ble_eq_true rfl) rfl (eX0_get hc (by omega) (by omega) (by omega) (by omega) ?_)
        have hm := (rP i h1 (by omega)).2.2.2.2.2.1
        have hm2 := wP i h1 (by omega)
        unfold zWfP at hm2
        refine rr_eqS (congrArg (fun z => [zI z]) hm) ?_
        refine rr_iconst (n := (-1)) dX0_lyingMarkers_18 ?_
        refine rr_icmp_eq (pc := 19) (tgt := 25) dX0_lyingMarkers_19 (by decide) (by unfold zR; (try split) <;> omega) (by unfold zR; (try split) <;> omega) (fun h19 => ?_) (fun h19 => ?_)
        · refine rr_iinc (pc := 25) dX0_lyingMarkers_25 rfl (by decide) ?_
          refine rr_goto (pc := 28) (tgt := 4) dX0_lyingMarkers_28 (by decide) ?_
          have g9 := ih (i + 1) (by omega) (by omega) (by omega)
          rw [show (i + 1).toNat = i.toNat + 1 by omega] at g9
          unfold zCnt at g9
          rw [show ((i.toNat : Nat) : Int) = i by omega] at g9
          revert g9
          by_cases e5 : aP a i 5 = 0
          · rw [if_pos e5] at h19
            first | exact absurd rfl h19 | (rw [if_neg (fun z => absurd e5 (of_decide_eq_true z))]; exact fun g9 => g9)
          · rw [if_neg e5] at h19
            first | (exfalso; omega) | (rw [if_pos (decide_eq_true e5)]; exact fun g9 => g9)
        · refine rr_iinc (pc := 22) dX0_lyingMarkers_22 rfl (by decide) ?_
          refine rr_iinc (pc := 25) dX0_lyingMarkers_25 rfl (by decide) ?_
          refine rr_goto (pc := 28) (tgt := 4) dX0_lyingMarkers_28 (by decide) ?_
          have g9 := ih (i + 1) (by omega) (by omega) (by omega)
          rw [show (i + 1).toNat = i.toNat + 1 by omega] at g9
          unfold zCnt at g9
          rw [show ((i.toNat : Nat) : Int) = i by omega] at g9
          revert g9
          by_cases e5 : aP a i 5 = 0
          · rw [if_pos e5] at h19
            first | exact absurd rfl h19 | (rw [if_neg (fun z => absurd e5 (of_decide_eq_true z))]; exact fun g9 => g9)
          · rw [if_neg e5] at h19
            first | (exfalso; omega) | (rw [if_pos (decide_eq_true e5)]; exact fun g9 => g9)
  refine rr_iconst (n := 0) dX0_lyingMarkers_0 ?_
  refine rr_istore_n (pc := 1) dX0_lyingMarkers_1 (by decide) ?_
  refine rr_iconst (n := 0) dX0_lyingMarkers_2 ?_
  refine rr_istore_n (pc := 3) dX0_lyingMarkers_3 (by decide) ?_
  exact loop _ 0 (by omega) (by omega) (Nat.lt_succ_self _)
theorem dX0_markersOn_0 : decode cX0_markersOn 0 = .ok (.iconst 0, 1) := by decide +kernel
theorem dX0_markersOn_1 : decode cX0_markersOn 1 = .ok (.istore_n 2, 1) := by decide +kernel
theorem dX0_markersOn_2 : decode cX0_markersOn 2 = .ok (.iconst 0, 1) := by decide +kernel
theorem dX0_markersOn_3 : decode cX0_markersOn 3 = .ok (.istore_n 3, 1) := by decide +kernel
theorem dX0_markersOn_4 : decode cX0_markersOn 4 = .ok (.iload_n 3, 1) := by decide +kernel
theorem dX0_markersOn_5 : decode cX0_markersOn 5 = .ok (.aload_n 0, 1) := by decide +kernel
theorem dX0_markersOn_6 : decode cX0_markersOn 6 = .ok (.getfield 44, 3) := by decide +kernel
theorem dX0_markersOn_9 : decode cX0_markersOn 9 = .ok (.if_icmp .ge 25, 3) := by decide +kernel
theorem dX0_markersOn_12 : decode cX0_markersOn 12 = .ok (.aload_n 0, 1) := by decide +kernel
theorem dX0_markersOn_13 : decode cX0_markersOn 13 = .ok (.iload_n 3, 1) := by decide +kernel
theorem dX0_markersOn_14 : decode cX0_markersOn 14 = .ok (.iconst 5, 1) := by decide +kernel
theorem dX0_markersOn_15 : decode cX0_markersOn 15 = .ok (.invokevirtual 81, 3) := by decide +kernel
theorem dX0_markersOn_18 : decode cX0_markersOn 18 = .ok (.iload_n 1, 1) := by decide +kernel
theorem dX0_markersOn_19 : decode cX0_markersOn 19 = .ok (.if_icmp .ne 9, 3) := by decide +kernel
theorem dX0_markersOn_22 : decode cX0_markersOn 22 = .ok (.iload_n 2, 1) := by decide +kernel
theorem dX0_markersOn_23 : decode cX0_markersOn 23 = .ok (.iconst 1, 1) := by decide +kernel
theorem dX0_markersOn_24 : decode cX0_markersOn 24 = .ok (.iload_n 3, 1) := by decide +kernel
theorem dX0_markersOn_25 : decode cX0_markersOn 25 = .ok (.ishl, 1) := by decide +kernel
theorem dX0_markersOn_26 : decode cX0_markersOn 26 = .ok (.ior, 1) := by decide +kernel
theorem dX0_markersOn_27 : decode cX0_markersOn 27 = .ok (.istore_n 2, 1) := by decide +kernel
theorem dX0_markersOn_28 : decode cX0_markersOn 28 = .ok (.iinc 3 1, 3) := by decide +kernel
theorem dX0_markersOn_31 : decode cX0_markersOn 31 = .ok (.goto (-27), 3) := by decide +kernel
theorem dX0_markersOn_34 : decode cX0_markersOn 34 = .ok (.iload_n 2, 1) := by decide +kernel
theorem dX0_markersOn_35 : decode cX0_markersOn 35 = .ok (.ireturn, 1) := by decide +kernel
theorem eX0_markersOn {c : Nat} {W : zWd} {a : Int → Int} {T : Int} {s : Int} {Q : Option Value → zWd → Prop} {X : zX} (hc : zCt c) (hR : zCR W c a) (hw : zWf T a) (h0 : 1 ≤ s) (hs1 : s ≤ a 1) (hq : Q (some (zI (zSet0 (fun q : Nat => decide (aP a q 5 = s)) (a 2).toNat : Nat))) W) : Ev MX0_markersOn 1 0 W [.ref c, zI s] Q X := by
  refine ev_of (ls := [.ref c, zI s, .null, .null]) (by decide) rfl (fun _ => rfl) (fun _ => Nat.le_of_ble_eq_true rfl) (Or.inl rfl) ?_
  obtain ⟨r0, r1, r2, r3, r4, r5, r6, r7, rF, rS, rP, rB⟩ := id hR
  obtain ⟨w0, w0', wW, w1, w2, w2', w3, w3', w4, w4', w5, w5', w6, w6', w7, w7', wS, wP, wT⟩ := id hw
  have wq := zWf.sq hw
  have loop : ∀ (n : Nat) (i : Int), 0 ≤ i → i ≤ a 2 → (a 2 - i).toNat < n → RR MX0_markersOn 1 0 W 4 [.ref c, zI s, zI (zSet0 (fun q : Nat => decide (aP a q 5 = s)) i.toNat : Nat), zI i] [] (zEnd MX0_markersOn Q X) X := by
    intro n
    induction n with
    | zero => intro i _ _ hm9; omega
    | succ n ih =>
      intro i h1 h2 hm9
      refine rr_iload_n (pc := 4) dX0_markersOn_4 rfl ?_
      refine rr_aload_n (pc := 5) dX0_markersOn_5 rfl ?_
      refine rr_getI (pc := 6) (ji := 2) dX0_markersOn_6 fX0_44 hc.k hc.i2 rfl ?_
      refine rr_icmp_ge (pc := 9) (tgt := 34) dX0_markersOn_9 (by decide) (by unfold zR; omega) (by unfold zR; omega) (fun h9 => ?_) (fun h9 => ?_)
      · refine rr_iload_n (pc := 34) dX0_markersOn_34 rfl ?_
        exact rr_reti (pc := 35) dX0_markersOn_35 rfl rfl (by rw [show i = a 2 by omega]) rfl (hq)
      · refine rr_aload_n (pc := 12) dX0_markersOn_12 rfl ?_
        refine rr_iload_n (pc := 13) dX0_markersOn_13 rfl ?_
        refine rr_iconst (n := 5) dX0_markersOn_14 ?_
        refine rr_inv0 (M' := MX0_get) (k := c) (As := [_, _]) (pc := 15) dX0_markersOn_15 lX0_81 kX0_get vX0_get hc.k (by decide) rfl (by decide) (by decide) (Nat.le_of_ble_eq_true rfl) rfl (eX0_get hc (by omega) (by omega) (by omega) (by omega) ?_)
        have hm := (rP i h1 (by omega)).2.2.2.2.2.1
        have hm2 := wP i h1 (by omega)
        unfold zWfP at hm2
        refine rr_eqS (congrArg (fun z => [zI z]) hm) ?_
        refine rr_iload_n (pc := 18) dX0_markersOn_18 rfl ?_
        refine rr_icmp_ne (pc := 19) (tgt := 28) dX0_markersOn_19 (by decide) (by unfold zR; (try split) <;> omega) (by unfold zR; (try split) <;> omega) (fun h19 => ?_) (fun h19 => ?_)
        · refine rr_iinc (pc := 28) dX0_markersOn_28 rfl (by decide) ?_
          refine rr_goto (pc := 31) (tgt := 4) dX0_markersOn_31 (by decide) ?_
          have g9 := ih (i + 1) (by omega) (by omega) (by omega)
          rw [show (i + 1).toNat = i.toNat + 1 by omega] at g9
          unfold zSet0 at g9
          rw [show ((i.toNat : Nat) : Int) = i by omega] at g9
          revert g9
          by_cases e5 : aP a i 5 = s
          · rw [if_neg (show ¬ aP a i 5 = 0 by omega)] at h19
            first | exact absurd e5 h19 | (rw [if_pos (decide_eq_true e5)]; exact fun g9 => g9)
          · have e6 : (if aP a i 5 = 0 then -1 else aP a i 5) ≠ s := by split <;> omega
            first | exact absurd h19 e6 | (rw [if_neg (fun z => e5 (of_decide_eq_true z))]; exact fun g9 => g9)
        · refine rr_iload_n (pc := 22) dX0_markersOn_22 rfl ?_
          refine rr_iconst (n := 1) dX0_markersOn_23 ?_
          refine rr_iload_n (pc := 24) dX0_markersOn_24 rfl ?_
          refine rr_ishl1 (pc := 25) dX0_markersOn_25 (by omega) (by omega) ?_
          refine rr_ior (pc := 26) dX0_markersOn_26 (Nat.lt_trans (zSet0_32 _ (by omega)) (by decide)) (z_p32 (by omega)) ?_
          refine rr_istore_n (pc := 27) dX0_markersOn_27 (by decide) ?_
          refine rr_iinc (pc := 28) dX0_markersOn_28 rfl (by decide) ?_
          refine rr_goto (pc := 31) (tgt := 4) dX0_markersOn_31 (by decide) ?_
          have g9 := ih (i + 1) (by omega) (by omega) (by omega)
          rw [show (i + 1).toNat = i.toNat + 1 by omega] at g9
          unfold zSet0 at g9
          rw [show ((i.toNat : Nat) : Int) = i by omega] at g9
          revert g9
          by_cases e5 : aP a i 5 = s
          · rw [if_neg (show ¬ aP a i 5 = 0 by omega)] at h19
            first | exact absurd e5 h19 | (rw [if_pos (decide_eq_true e5)]; exact fun g9 => g9)
          · have e6 : (if aP a i 5 = 0 then -1 else aP a i 5) ≠ s := by split <;> omega
            first | exact absurd h19 e6 | (rw [if_neg (fun z => e5 (of_decide_eq_true z))]; exact fun g9 => g9)
  refine rr_iconst (n := 0) dX0_markersOn_0 ?_
  refine rr_istore_n (pc := 1) dX0_markersOn_1 (by decide) ?_
  refine rr_iconst (n := 0) dX0_markersOn_2 ?_
  refine rr_istore_n (pc := 3) dX0_markersOn_3 (by decide) ?_
  exact loop _ 0 (by omega) (by omega) (Nat.lt_succ_self _)
theorem dX0_markedSquares_0 : decode cX0_markedSquares 0 = .ok (.iconst 0, 1) := by decide +kernel
theorem dX0_markedSquares_1 : decode cX0_markedSquares 1 = .ok (.istore_n 2, 1) := by decide +kernel
theorem dX0_markedSquares_2 : decode cX0_markedSquares 2 = .ok (.iconst 0, 1) := by decide +kernel
theorem dX0_markedSquares_3 : decode cX0_markedSquares 3 = .ok (.istore_n 3, 1) := by decide +kernel
theorem dX0_markedSquares_4 : decode cX0_markedSquares 4 = .ok (.iload_n 3, 1) := by decide +kernel
theorem dX0_markedSquares_5 : decode cX0_markedSquares 5 = .ok (.aload_n 0, 1) := by decide +kernel
theorem dX0_markedSquares_6 : decode cX0_markedSquares 6 = .ok (.getfield 44, 3) := by decide +kernel
theorem dX0_markedSquares_9 : decode cX0_markedSquares 9 = .ok (.if_icmp .ge 35, 3) := by decide +kernel
theorem dX0_markedSquares_12 : decode cX0_markedSquares 12 = .ok (.aload_n 0, 1) := by decide +kernel
theorem dX0_markedSquares_13 : decode cX0_markedSquares 13 = .ok (.iload_n 3, 1) := by decide +kernel
theorem dX0_markedSquares_14 : decode cX0_markedSquares 14 = .ok (.iconst 5, 1) := by decide +kernel
theorem dX0_markedSquares_15 : decode cX0_markedSquares 15 = .ok (.invokevirtual 81, 3) := by decide +kernel
theorem dX0_markedSquares_18 : decode cX0_markedSquares 18 = .ok (.istore 4, 2) := by decide +kernel
theorem dX0_markedSquares_20 : decode cX0_markedSquares 20 = .ok (.iload_n 3, 1) := by decide +kernel
theorem dX0_markedSquares_21 : decode cX0_markedSquares 21 = .ok (.iload_n 1, 1) := by decide +kernel
theorem dX0_markedSquares_22 : decode cX0_markedSquares 22 = .ok (.if_icmp .eq 16, 3) := by decide +kernel
theorem dX0_markedSquares_25 : decode cX0_markedSquares 25 = .ok (.iload 4, 2) := by decide +kernel
theorem dX0_markedSquares_27 : decode cX0_markedSquares 27 = .ok (.iconst (-1), 1) := by decide +kernel
theorem dX0_markedSquares_28 : decode cX0_markedSquares 28 = .ok (.if_icmp .eq 10, 3) := by decide +kernel
theorem dX0_markedSquares_31 : decode cX0_markedSquares 31 = .ok (.iload_n 2, 1) := by decide +kernel
theorem dX0_markedSquares_32 : decode cX0_markedSquares 32 = .ok (.iconst 1, 1) := by decide +kernel
theorem dX0_markedSquares_33 : decode cX0_markedSquares 33 = .ok (.iload 4, 2) := by decide +kernel
theorem dX0_markedSquares_35 : decode cX0_markedSquares 35 = .ok (.ishl, 1) := by decide +kernel
theorem dX0_markedSquares_36 : decode cX0_markedSquares 36 = .ok (.ior, 1) := by decide +kernel
theorem dX0_markedSquares_37 : decode cX0_markedSquares 37 = .ok (.istore_n 2, 1) := by decide +kernel
theorem dX0_markedSquares_38 : decode cX0_markedSquares 38 = .ok (.iinc 3 1, 3) := by decide +kernel
theorem dX0_markedSquares_41 : decode cX0_markedSquares 41 = .ok (.goto (-37), 3) := by decide +kernel
theorem dX0_markedSquares_44 : decode cX0_markedSquares 44 = .ok (.iload_n 2, 1) := by decide +kernel
theorem dX0_markedSquares_45 : decode cX0_markedSquares 45 = .ok (.ireturn, 1) := by decide +kernel
theorem eX0_markedSquares {c : Nat} {W : zWd} {a : Int → Int} {T : Int} {w : Int} {Q : Option Value → zWd → Prop} {X : zX} (hc : zCt c) (hR : zCR W c a) (hw : zWf T a) (hw9 : zR w) (hq : Q (some (zI (zMks a w (a 2).toNat : Nat))) W) : Ev MX0_markedSquares 1 0 W [.ref c, zI w] Q X := by
  refine ev_of (ls := [.ref c, zI w, .null, .null, .null]) (by decide) rfl (fun _ => rfl) (fun _ => Nat.le_of_ble_eq_true rfl) (Or.inl rfl) ?_
  obtain ⟨r0, r1, r2, r3, r4, r5, r6, r7, rF, rS, rP, rB⟩ := id hR
  obtain ⟨w0, w0', wW, w1, w2, w2', w3, w3', w4, w4', w5, w5', w6, w6', w7, w7', wS, wP, wT⟩ := id hw
  have wq := zWf.sq hw
  have loop : ∀ (n : Nat) (i : Int) (v4 : Value), 0 ≤ i → i ≤ a 2 → (a 2 - i).toNat < n → RR MX0_markedSquares 1 0 W 4 [.ref c, zI w, zI (zMks a w i.toNat : Nat), zI i, v4] [] (zEnd MX0_markedSquares Q X) X := by
    intro n
    induction n with
    | zero => intro i v4 _ _ hm9; omega
    | succ n ih =>
      intro i v4 h1 h2 hm9
      refine rr_iload_n (pc := 4) dX0_markedSquares_4 rfl ?_
      refine rr_aload_n (pc := 5) dX0_markedSquares_5 rfl ?_
      refine rr_getI (pc := 6) (ji := 2) dX0_markedSquares_6 fX0_44 hc.k hc.i2 rfl ?_
      refine rr_icmp_ge (pc := 9) (tgt := 44) dX0_markedSquares_9 (by decide) (by unfold zR; omega) (by unfold zR; omega) (fun h9 => ?_) (fun h9 => ?_)
      · refine rr_iload_n (pc := 44) dX0_markedSquares_44 rfl ?_
        exact rr_reti (pc := 45) dX0_markedSquares_45 rfl rfl (by rw [show i = a 2 by omega]) rfl (hq)
      · refine rr_aload_n (pc := 12) dX0_markedSquares_12 rfl ?_
        refine rr_iload_n (pc := 13) dX0_markedSquares_13 rfl ?_
        refine rr_iconst (n := 5) dX0_markedSquares_14 ?_
        refine rr_inv0 (M' := MX0_get) (k := c) (As := [_, _]) (pc := 15) dX0_markedSquares_15 lX0_81 kX0_get vX0_get hc.k (by decide) rfl (by decide) (by decide) (Nat.le_of_ble_eq_true rfl) rfl (eX0_get hc (by omega) (by omega) (by omega) (by omega) ?_)
        have hm := (rP i h1 (by omega)).2.2.2.2.2.1
        have hm2 := wP i h1 (by omega)
        unfold zWfP at hm2
        refine rr_eqS (congrArg (fun z => [zI z]) hm) ?_
        refine rr_istore (pc := 18) dX0_markedSquares_18 (by decide) ?_
        refine rr_iload_n (pc := 20) dX0_markedSquares_20 rfl ?_
        refine rr_iload_n (pc := 21) dX0_markedSquares_21 rfl ?_
        refine rr_icmp_eq (pc := 22) (tgt := 38) dX0_markedSquares_22 (by decide) (by unfold zR; omega) hw9 (fun h22 => ?_) (fun h22 => ?_)
        · refine rr_iinc (pc := 38) dX0_markedSquares_38 rfl (by decide) ?_
          refine rr_goto (pc := 41) (tgt := 4) dX0_markedSquares_41 (by decide) ?_
          have g9 := ih (i + 1) (zI (if aP a i 5 = 0 then -1 else aP a i 5)) (by omega) (by omega) (by omega)
          rw [show (i + 1).toNat = i.toNat + 1 by omega] at g9
          unfold zMks at g9
          rw [show ((i.toNat : Nat) : Int) = i by omega] at g9
          revert g9
          by_cases e5 : aP a i 5 = 0
          · rw [if_neg (show ¬ (i ≠ w ∧ aP a i 5 ≠ 0) by omega)]
            first | (rw [if_pos e5] at h28; exact absurd rfl h28) | exact fun g9 => g9
          · by_cases e6 : i = w
            · rw [if_neg (show ¬ (i ≠ w ∧ aP a i 5 ≠ 0) by omega)]
              first | exact absurd e6 h22 | exact fun g9 => g9
            · rw [if_pos (show i ≠ w ∧ aP a i 5 ≠ 0 by omega)]
              first | exact absurd h22 e6 | (rw [if_neg e5] at h28; exfalso; omega) | (rw [if_neg e5]; exact fun g9 => g9)
        · refine rr_iload (pc := 25) dX0_markedSquares_25 rfl ?_
          refine rr_iconst (n := (-1)) dX0_markedSquares_27 ?_
          refine rr_icmp_eq (pc := 28) (tgt := 38) dX0_markedSquares_28 (by decide) (by unfold zR; (try split) <;> omega) (by unfold zR; (try split) <;> omega) (fun h28 => ?_) (fun h28 => ?_)
          · refine rr_iinc (pc := 38) dX0_markedSquares_38 rfl (by decide) ?_
            refine rr_goto (pc := 41) (tgt := 4) dX0_markedSquares_41 (by decide) ?_
            have g9 := ih (i + 1) (zI (if aP a i 5 = 0 then -1 else aP a i 5)) (by omega) (by omega) (by omega)
            rw [show (i + 1).toNat = i.toNat + 1 by omega] at g9
            unfold zMks at g9
            rw [show ((i.toNat : Nat) : Int) = i by omega] at g9
            revert g9
            by_cases e5 : aP a i 5 = 0
            · rw [if_neg (show ¬ (i ≠ w ∧ aP a i 5 ≠ 0) by omega)]
              first | (rw [if_pos e5] at h28; exact absurd rfl h28) | exact fun g9 => g9
            · by_cases e6 : i = w
              · rw [if_neg (show ¬ (i ≠ w ∧ aP a i 5 ≠ 0) by omega)]
                first | exact absurd e6 h22 | exact fun g9 => g9
              · rw [if_pos (show i ≠ w ∧ aP a i 5 ≠ 0 by omega)]
                first | exact absurd h22 e6 | (rw [if_neg e5] at h28; exfalso; omega) | (rw [if_neg e5]; exact fun g9 => g9)
          · refine rr_iload_n (pc := 31) dX0_markedSquares_31 rfl ?_
            refine rr_iconst (n := 1) dX0_markedSquares_32 ?_
            refine rr_iload (pc := 33) dX0_markedSquares_33 rfl ?_
            refine rr_eqS (congrArg (fun z => zI z :: zI 1 :: zI (zMks a w i.toNat : Nat) :: []) (if_neg (show ¬ aP a i 5 = 0 by split at h28 <;> omega))) ?_
            refine rr_ishl1 (pc := 35) dX0_markedSquares_35 (by omega) (by omega) ?_
            refine rr_ior (pc := 36) dX0_markedSquares_36 (Nat.lt_trans (zMks_lt _ (fun q a1 a2 => by have := wP q a1 (by omega); unfold zWfP at this; omega)) (by decide)) (z_p32 (by omega)) ?_
            refine rr_istore_n (pc := 37) dX0_markedSquares_37 (by decide) ?_
            refine rr_iinc (pc := 38) dX0_markedSquares_38 rfl (by decide) ?_
            refine rr_goto (pc := 41) (tgt := 4) dX0_markedSquares_41 (by decide) ?_
            have g9 := ih (i + 1) (zI (if aP a i 5 = 0 then -1 else aP a i 5)) (by omega) (by omega) (by omega)
            rw [show (i + 1).toNat = i.toNat + 1 by omega] at g9
            unfold zMks at g9
            rw [show ((i.toNat : Nat) : Int) = i by omega] at g9
            revert g9
            by_cases e5 : aP a i 5 = 0
            · rw [if_neg (show ¬ (i ≠ w ∧ aP a i 5 ≠ 0) by omega)]
              first | (rw [if_pos e5] at h28; exact absurd rfl h28) | exact fun g9 => g9
            · by_cases e6 : i = w
              · rw [if_neg (show ¬ (i ≠ w ∧ aP a i 5 ≠ 0) by omega)]
                first | exact absurd e6 h22 | exact fun g9 => g9
              · rw [if_pos (show i ≠ w ∧ aP a i 5 ≠ 0 by omega)]
                first | exact absurd h22 e6 | (rw [if_neg e5] at h28; exfalso; omega) | (rw [if_neg e5]; exact fun g9 => g9)
  refine rr_iconst (n := 0) dX0_markedSquares_0 ?_
  refine rr_istore_n (pc := 1) dX0_markedSquares_1 (by decide) ?_
  refine rr_iconst (n := 0) dX0_markedSquares_2 ?_
  refine rr_istore_n (pc := 3) dX0_markedSquares_3 (by decide) ?_
  exact loop _ 0 .null (by omega) (by omega) (Nat.lt_succ_self _)
theorem dX0_usableSet_0 : decode cX0_usableSet 0 = .ok (.aload_n 0, 1) := by decide +kernel
theorem dX0_usableSet_1 : decode cX0_usableSet 1 = .ok (.iconst (-1), 1) := by decide +kernel
theorem dX0_usableSet_2 : decode cX0_usableSet 2 = .ok (.invokevirtual 72, 3) := by decide +kernel
theorem dX0_usableSet_5 : decode cX0_usableSet 5 = .ok (.aload_n 0, 1) := by decide +kernel
theorem dX0_usableSet_6 : decode cX0_usableSet 6 = .ok (.iload_n 1, 1) := by decide +kernel
theorem dX0_usableSet_7 : decode cX0_usableSet 7 = .ok (.invokevirtual 72, 3) := by decide +kernel
theorem dX0_usableSet_10 : decode cX0_usableSet 10 = .ok (.ior, 1) := by decide +kernel
theorem dX0_usableSet_11 : decode cX0_usableSet 11 = .ok (.iload_n 2, 1) := by decide +kernel
theorem dX0_usableSet_12 : decode cX0_usableSet 12 = .ok (.iconst (-1), 1) := by decide +kernel
theorem dX0_usableSet_13 : decode cX0_usableSet 13 = .ok (.ixor, 1) := by decide +kernel
theorem dX0_usableSet_14 : decode cX0_usableSet 14 = .ok (.iand, 1) := by decide +kernel
theorem dX0_usableSet_15 : decode cX0_usableSet 15 = .ok (.ireturn, 1) := by decide +kernel
theorem eX0_usableSet {c : Nat} {W : zWd} {a : Int → Int} {T : Int} {q : Int} {m : Nat} {Q : Option Value → zWd → Prop} {X : zX} (hc : zCt c) (hR : zCR W c a) (hw : zWf T a) (hq0 : zR q) (hm : m < 2097152) (hq : Q (some (zI (aUset a q m : Nat))) W) : Ev MX0_usableSet 1 0 W [.ref c, zI q, zI (m : Int)] Q X := by
  refine ev_of (ls := [.ref c, zI q, zI (m : Int)]) (by decide) rfl (fun _ => rfl) (fun _ => Nat.le_of_ble_eq_true rfl) (Or.inl rfl) ?_
  obtain ⟨r0, r1, r2, r3, r4, r5, r6, r7, rF, rS, rP, rB⟩ := id hR
  obtain ⟨w0, w0', wW, w1, w2, w2', w3, w3', w4, w4', w5, w5', w6, w6', w7, w7', wS, wP, wT⟩ := id hw
  have wq := zWf.sq hw
  refine rr_aload_n (pc := 0) dX0_usableSet_0 rfl ?_
  refine rr_iconst (n := (-1)) dX0_usableSet_1 ?_
  refine rr_inv0 (M' := MX0_squaresOf) (k := c) (As := [_]) (pc := 2) dX0_usableSet_2 lX0_72 kX0_squaresOf vX0_squaresOf hc.k (by decide) rfl (by decide) (by decide) (Nat.le_of_ble_eq_true rfl) rfl (eX0_squaresOf hc hR hw (by unfold zR; omega) ?_)
  refine rr_aload_n (pc := 5) dX0_usableSet_5 rfl ?_
  refine rr_iload_n (pc := 6) dX0_usableSet_6 rfl ?_
  refine rr_inv0 (M' := MX0_squaresOf) (k := c) (As := [_]) (pc := 7) dX0_usableSet_7 lX0_72 kX0_squaresOf vX0_squaresOf hc.k (by decide) rfl (by decide) (by decide) (Nat.le_of_ble_eq_true rfl) rfl (eX0_squaresOf hc hR hw hq0 ?_)
  refine rr_ior (pc := 10) dX0_usableSet_10 (Nat.lt_trans (zSet_32 _ (by omega)) (by decide)) (Nat.lt_trans (zSet_32 _ (by omega)) (by decide)) ?_
  refine rr_iload_n (pc := 11) dX0_usableSet_11 rfl ?_
  refine rr_iconst (n := (-1)) dX0_usableSet_12 ?_
  refine rr_inot (pc := 13) dX0_usableSet_13 (by omega) ?_
  refine rr_iandn (pc := 14) dX0_usableSet_14 (Nat.lt_trans (Nat.or_lt_two_pow (n := 21) (zSet_32 _ (by omega)) (zSet_32 _ (by omega))) (by decide)) (by omega) ?_
  exact rr_reti (pc := 15) dX0_usableSet_15 rfl rfl rfl rfl (hq)
