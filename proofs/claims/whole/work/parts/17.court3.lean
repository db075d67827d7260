def zOff (c : Nat) (W W' : zWd) : Prop := ∀ k : Nat, (k < c ∨ c + 8 ≤ k) → W' k = W k
theorem zOff.rf {c : Nat} {W : zWd} : zOff c W W := fun _ _ => rfl
theorem zOff.up {c n : Nat} {W W' : zWd} {i v : Int} (h : zOff c W W') (hn : c ≤ n ∧ n < c + 8) : zOff c W (zup W' n i v) := fun k hk => by
  rw [← h k hk]; exact zup_other k (by omega)
theorem zOff.tr {c : Nat} {W W' W'' : zWd} (h : zOff c W W') (h2 : zOff c W' W'') : zOff c W W'' := fun k hk => (h2 k hk).trans (h k hk)
theorem z_bit {u : Nat} {i : Int} : ((u : Int) / 2 ^ i.toNat % 2 ^ 1 = 1) ↔ u.testBit i.toNat = true := by
  rw [Nat.testBit_eq_decide_div_mod_eq, decide_eq_true_eq]
  have h1 : (u : Int) / 2 ^ i.toNat = ((u / 2 ^ i.toNat : Nat) : Int) := by
    rw [Int.natCast_ediv, Int.natCast_pow]; rfl
  rw [h1]
  omega
/-- places ahead of the players stay -/
theorem zLow {a a' : Int → Int} (h : ∀ j : Int, j < 18 → a' j = a j) : a' 0 = a 0 ∧ a' 1 = a 1 ∧ a' 2 = a 2 ∧ ∀ r : Nat, r ≤ 10 → aF a' r = aF a r :=
  ⟨h _ (by omega), h _ (by omega), h _ (by omega), aF_cg (fun j _ hj => h j hj)⟩
theorem aLd_low (P : Int → Bool) : ∀ (n : Nat) (s : Int) (a : Int → Int) (j : Int), 1 ≤ s → j < 18 → aLd P n s a j = a j := by
  intro n
  induction n with
  | zero => intro s a j _ _; rfl
  | succ n ih =>
    intro s a j hs hj
    unfold aLd
    rw [ih _ _ j (by omega) hj]
    split
    · exact iup_n (by omega)
    · rfl

theorem dX0_addLandings_0 : decode cX0_addLandings 0 = .ok (.iload_n 1, 1) := by decide +kernel
theorem dX0_addLandings_1 : decode cX0_addLandings 1 = .ok (.ifCond .lt 11, 3) := by decide +kernel
theorem dX0_addLandings_4 : decode cX0_addLandings 4 = .ok (.iload_n 1, 1) := by decide +kernel
theorem dX0_addLandings_5 : decode cX0_addLandings 5 = .ok (.aload_n 0, 1) := by decide +kernel
theorem dX0_addLandings_6 : decode cX0_addLandings 6 = .ok (.getfield 37, 3) := by decide +kernel
theorem dX0_addLandings_9 : decode cX0_addLandings 9 = .ok (.if_icmp .lt 4, 3) := by decide +kernel
theorem dX0_addLandings_12 : decode cX0_addLandings 12 = .ok (.return_, 1) := by decide +kernel
theorem dX0_addLandings_13 : decode cX0_addLandings 13 = .ok (.aload_n 0, 1) := by decide +kernel
theorem dX0_addLandings_14 : decode cX0_addLandings 14 = .ok (.getfield 9, 3) := by decide +kernel
theorem dX0_addLandings_17 : decode cX0_addLandings 17 = .ok (.iload_n 1, 1) := by decide +kernel
theorem dX0_addLandings_18 : decode cX0_addLandings 18 = .ok (.iaload, 1) := by decide +kernel
theorem dX0_addLandings_19 : decode cX0_addLandings 19 = .ok (.istore_n 3, 1) := by decide +kernel
theorem dX0_addLandings_20 : decode cX0_addLandings 20 = .ok (.iload_n 3, 1) := by decide +kernel
theorem dX0_addLandings_21 : decode cX0_addLandings 21 = .ok (.aload_n 0, 1) := by decide +kernel
theorem dX0_addLandings_22 : decode cX0_addLandings 22 = .ok (.getfield 9, 3) := by decide +kernel
theorem dX0_addLandings_25 : decode cX0_addLandings 25 = .ok (.iload_n 1, 1) := by decide +kernel
theorem dX0_addLandings_26 : decode cX0_addLandings 26 = .ok (.iconst 1, 1) := by decide +kernel
theorem dX0_addLandings_27 : decode cX0_addLandings 27 = .ok (.iadd, 1) := by decide +kernel
theorem dX0_addLandings_28 : decode cX0_addLandings 28 = .ok (.iaload, 1) := by decide +kernel
theorem dX0_addLandings_29 : decode cX0_addLandings 29 = .ok (.if_icmp .ge 28, 3) := by decide +kernel
theorem dX0_addLandings_32 : decode cX0_addLandings 32 = .ok (.iload_n 2, 1) := by decide +kernel
theorem dX0_addLandings_33 : decode cX0_addLandings 33 = .ok (.iload_n 3, 1) := by decide +kernel
theorem dX0_addLandings_34 : decode cX0_addLandings 34 = .ok (.ishr, 1) := by decide +kernel
theorem dX0_addLandings_35 : decode cX0_addLandings 35 = .ok (.iconst 1, 1) := by decide +kernel
theorem dX0_addLandings_36 : decode cX0_addLandings 36 = .ok (.iand, 1) := by decide +kernel
theorem dX0_addLandings_37 : decode cX0_addLandings 37 = .ok (.iconst 1, 1) := by decide +kernel
theorem dX0_addLandings_38 : decode cX0_addLandings 38 = .ok (.if_icmp .ne 13, 3) := by decide +kernel
theorem dX0_addLandings_41 : decode cX0_addLandings 41 = .ok (.aload_n 0, 1) := by decide +kernel
theorem dX0_addLandings_42 : decode cX0_addLandings 42 = .ok (.getfield 21, 3) := by decide +kernel
theorem dX0_addLandings_45 : decode cX0_addLandings 45 = .ok (.iload_n 3, 1) := by decide +kernel
theorem dX0_addLandings_46 : decode cX0_addLandings 46 = .ok (.dup2, 1) := by decide +kernel
theorem dX0_addLandings_47 : decode cX0_addLandings 47 = .ok (.iaload, 1) := by decide +kernel
theorem dX0_addLandings_48 : decode cX0_addLandings 48 = .ok (.iconst 1, 1) := by decide +kernel
theorem dX0_addLandings_49 : decode cX0_addLandings 49 = .ok (.iadd, 1) := by decide +kernel
theorem dX0_addLandings_50 : decode cX0_addLandings 50 = .ok (.iastore, 1) := by decide +kernel
theorem dX0_addLandings_51 : decode cX0_addLandings 51 = .ok (.iinc 3 1, 3) := by decide +kernel
theorem dX0_addLandings_54 : decode cX0_addLandings 54 = .ok (.goto (-34), 3) := by decide +kernel
theorem dX0_addLandings_57 : decode cX0_addLandings 57 = .ok (.return_, 1) := by decide +kernel
theorem eX0_addLandings {c : Nat} {W : zWd} {a : Int → Int} {T : Int} {r : Int} {u : Nat} {Q : Option Value → zWd → Prop} {X : zX} (hc : zCt c) (hR : zCR W c a) (hw : zWf T a) (hr9 : zR r) (hu : u < 2097152) (hq : ∀ W' : zWd, zOff c W W' → zCR W' c (aLand a r (fun s => u.testBit s.toNat)) → Q none W') : Ev MX0_addLandings 0 0 W [.ref c, zI r, zI (u : Int)] Q X := by
  refine ev_of (ls := [.ref c, zI r, zI (u : Int), .null]) (by decide) rfl (fun _ => rfl) (fun _ => Nat.le_of_ble_eq_true rfl) (Or.inl rfl) ?_
  obtain ⟨r0, r1, r2, r3, r4, r5, r6, r7, rF, rS, rP, rB⟩ := id hR
  obtain ⟨w0, w0', wW, w1, w2, w2', w3, w3', w4, w4', w5, w5', w6, w6', w7, w7', wS, wP, wT⟩ := id hw
  have wq := zWf.sq hw
  unfold zR at hr9
  by_cases hr : r < 0 ∨ a 0 ≤ r
  · have hLn : aLand a r (fun s => u.testBit s.toNat) = a := if_pos hr
    rw [hLn] at hq
    refine rr_iload_n (pc := 0) dX0_addLandings_0 rfl ?_
    refine rr_if_lt (pc := 1) (tgt := 12) dX0_addLandings_1 (by decide) (by unfold zR; omega) (fun h1 => ?_) (fun h1 => ?_)
    · exact rr_retv (pc := 12) dX0_addLandings_12 rfl rfl ((hq W zOff.rf hR))
    · refine rr_iload_n (pc := 4) dX0_addLandings_4 rfl ?_
      refine rr_aload_n (pc := 5) dX0_addLandings_5 rfl ?_
      refine rr_getI (pc := 6) (ji := 0) dX0_addLandings_6 fX0_37 hc.k hc.i0 rfl ?_
      rw [r0]
      refine rr_icmp_lt (pc := 9) (tgt := 13) dX0_addLandings_9 (by decide) (by unfold zR; omega) (by unfold zR; omega) (fun h9 => ?_) (fun h9 => ?_)
      · omega
      · exact rr_retv (pc := 12) dX0_addLandings_12 rfl rfl ((hq W zOff.rf hR))
  have e0 : W (c + 1) r = aF a r.toNat := by
    have h9 := rF r.toNat (by omega) (by omega)
    rw [show ((r.toNat : Nat) : Int) = r by omega] at h9; exact h9
  have hf := aF_lo hw (r := r.toNat) (by omega)
  have hf2 := aF_le hw (r := r.toNat + 1) (by omega)
  have hst := aF_step (a := a) r.toNat
  rw [show ((r.toNat : Nat) : Int) = r by omega] at hst
  have hww := wW r (by omega) (by omega)
  have loop : ∀ (n : Nat) (i : Int) (Wi : zWd) (ai : Int → Int), aF a r.toNat ≤ i → i ≤ aF a (r.toNat + 1) → zOff c W Wi → zCR Wi c ai → (∀ j : Int, j < 18 → ai j = a j) → aLd (fun s => u.testBit s.toNat) (aF a (r.toNat + 1) - i).toNat i ai = aLand a r (fun s => u.testBit s.toNat) → (aF a (r.toNat + 1) - i).toNat < n → RR MX0_addLandings 0 0 Wi 20 [.ref c, zI r, zI (u : Int), zI i] [] (zEnd MX0_addLandings Q X) X := by
    intro n
    induction n with
    | zero => intro i Wi ai _ _ _ _ _ _ hm9; omega
    | succ n ih =>
      intro i Wi ai h1 h2 hO hC hA hL hm9
      refine rr_iload_n (pc := 20) dX0_addLandings_20 rfl ?_
      refine rr_aload_n (pc := 21) dX0_addLandings_21 rfl ?_
      refine rr_getR (pc := 22) dX0_addLandings_22 fX0_9 hc.k hc.r8 ?_
      refine rr_iload_n (pc := 25) dX0_addLandings_25 rfl ?_
      refine rr_iconst (n := 1) dX0_addLandings_26 ?_
      refine rr_iadd (pc := 27) dX0_addLandings_27 ?_
      obtain ⟨l0, l1, l2, lF⟩ := zLow hA
      have g1 : Wi (c + 1) (r + 1) = aF a (r.toNat + 1) := by
        have h9 := hC.2.2.2.2.2.2.2.2.1 (r.toNat + 1) (by omega) (by omega)
        rw [show ((r.toNat + 1 : Nat) : Int) = r + 1 by omega, lF _ (by omega)] at h9; exact h9
      refine rr_iald (pc := 28) dX0_addLandings_28 hc.a1 (by omega) (by omega) ?_
      rw [g1]
      refine rr_icmp_ge (pc := 29) (tgt := 57) dX0_addLandings_29 (by decide) (by unfold zR; omega) (by unfold zR; omega) (fun h29 => ?_) (fun h29 => ?_)
      · exact rr_retv (pc := 57) dX0_addLandings_57 rfl rfl ((by rw [show (aF a (r.toNat + 1) - i).toNat = 0 by omega] at hL; exact hq Wi hO (by rw [← hL]; exact hC)))
      · refine rr_iload_n (pc := 32) dX0_addLandings_32 rfl ?_
        refine rr_iload_n (pc := 33) dX0_addLandings_33 rfl ?_
        refine rr_ishr (pc := 34) dX0_addLandings_34 (by unfold zR; omega) (by omega) (by omega) ?_
        refine rr_iconst (n := 1) dX0_addLandings_35 ?_
        refine rr_iandm (pc := 36) 1 dX0_addLandings_36 (by decide) rfl ?_
        refine rr_iconst (n := 1) dX0_addLandings_37 ?_
        refine rr_icmp_ne (pc := 38) (tgt := 51) dX0_addLandings_38 (by decide) (by unfold zR; omega) (by unfold zR; omega) (fun h38 => ?_) (fun h38 => ?_)
        · rw [show (aF a (r.toNat + 1) - i).toNat = (aF a (r.toNat + 1) - (i + 1)).toNat + 1 by omega] at hL
          unfold aLd at hL
          have hL9 := hL
          rw [if_neg (fun z => h38 (z_bit.mpr z))] at hL9
          refine rr_iinc (pc := 51) dX0_addLandings_51 rfl (by decide) ?_
          refine rr_goto (pc := 54) (tgt := 20) dX0_addLandings_54 (by decide) ?_
          exact ih (i + 1) _ _ (by omega) (by omega) hO hC hA hL9 (by omega)
        · rw [show (aF a (r.toNat + 1) - i).toNat = (aF a (r.toNat + 1) - (i + 1)).toNat + 1 by omega] at hL
          unfold aLd at hL
          have hL9 := hL
          rw [if_pos (z_bit.mp h38)] at hL9
          refine rr_aload_n (pc := 41) dX0_addLandings_41 rfl ?_
          refine rr_getR (pc := 42) dX0_addLandings_42 fX0_21 hc.k hc.r11 ?_
          refine rr_iload_n (pc := 45) dX0_addLandings_45 rfl ?_
          refine rr_dup2 (pc := 46) dX0_addLandings_46 ?_
          refine rr_iald (pc := 47) dX0_addLandings_47 hc.a4 (by omega) (by omega) ?_
          have hC9 := CR_S (o := 1) (v := Wi (c + 4) i + 1) hC (show 1 ≤ i by omega) (by omega) (Or.inr rfl)
          rw [if_neg (by decide), (hC.2.2.2.2.2.2.2.2.2.1 i (by omega) (by omega) (by omega)).2.2] at hC9
          rw [(hC.2.2.2.2.2.2.2.2.2.1 i (by omega) (by omega) (by omega)).2.2]
          refine rr_iconst (n := 1) dX0_addLandings_48 ?_
          refine rr_iadd (pc := 49) dX0_addLandings_49 ?_
          refine rr_iast (pc := 50) dX0_addLandings_50 hc.a4 (by omega) (by omega) ?_
          refine rr_iinc (pc := 51) dX0_addLandings_51 rfl (by decide) ?_
          refine rr_goto (pc := 54) (tgt := 20) dX0_addLandings_54 (by decide) ?_
          exact ih (i + 1) _ _ (by omega) (by omega) (hO.up (by omega)) hC9 (fun j hj => by rw [iup_n (by omega)]; exact hA j hj) hL9 (by omega)
  refine rr_iload_n (pc := 0) dX0_addLandings_0 rfl ?_
  refine rr_if_lt (pc := 1) (tgt := 12) dX0_addLandings_1 (by decide) (by unfold zR; omega) (fun h1 => ?_) (fun h1 => ?_)
  · omega
  · refine rr_iload_n (pc := 4) dX0_addLandings_4 rfl ?_
    refine rr_aload_n (pc := 5) dX0_addLandings_5 rfl ?_
    refine rr_getI (pc := 6) (ji := 0) dX0_addLandings_6 fX0_37 hc.k hc.i0 rfl ?_
    rw [r0]
    refine rr_icmp_lt (pc := 9) (tgt := 13) dX0_addLandings_9 (by decide) (by unfold zR; omega) (by unfold zR; omega) (fun h9 => ?_) (fun h9 => ?_)
    · refine rr_aload_n (pc := 13) dX0_addLandings_13 rfl ?_
      refine rr_getR (pc := 14) dX0_addLandings_14 fX0_9 hc.k hc.r8 ?_
      refine rr_iload_n (pc := 17) dX0_addLandings_17 rfl ?_
      refine rr_iald (pc := 18) dX0_addLandings_18 hc.a1 (by omega) (by omega) ?_
      rw [e0]
      refine rr_istore_n (pc := 19) dX0_addLandings_19 (by decide) ?_
      exact loop _ (aF a r.toNat) W a (by omega) (by omega) zOff.rf hR (fun _ _ => rfl) (by unfold aLand; rw [if_neg hr, show (aF a (r.toNat + 1) - aF a r.toNat).toNat = (a (8 + r)).toNat by omega]) (Nat.lt_succ_self _)
    · omega
theorem aP_up {a : Int → Int} {p q w v x : Int} (h : 17 * q + x ≠ 17 * p + w) : aP (iup a (58 + 17 * p + w) v) q x = aP a q x := by
  unfold aP; exact iup_n (by omega)
theorem aO_upP {a : Int → Int} {p w v s : Int} (hp : 0 ≤ p) (hw : 0 ≤ w) (hs : s ≤ 20) : aO (iup a (58 + 17 * p + w) v) s = aO a s := by
  unfold aO; rw [iup_n (by omega)]
theorem aOpen_upP {a : Int → Int} {p w v q s : Int} (hp : 0 ≤ p) (hw : 0 ≤ w) (h20 : a 1 ≤ 20) : aOpen (iup a (58 + 17 * p + w) v) q s = aOpen a q s :=
  aOpen_cg (iup_n (by omega)) (fun s' _ h => aO_upP hp hw (by omega))
theorem dX0_moveTargetOn_0 : decode cX0_moveTargetOn 0 = .ok (.aload_n 0, 1) := by decide +kernel
theorem dX0_moveTargetOn_1 : decode cX0_moveTargetOn 1 = .ok (.iload_n 1, 1) := by decide +kernel
theorem dX0_moveTargetOn_2 : decode cX0_moveTargetOn 2 = .ok (.aload_n 0, 1) := by decide +kernel
theorem dX0_moveTargetOn_3 : decode cX0_moveTargetOn 3 = .ok (.iload_n 1, 1) := by decide +kernel
theorem dX0_moveTargetOn_4 : decode cX0_moveTargetOn 4 = .ok (.iconst 2, 1) := by decide +kernel
theorem dX0_moveTargetOn_5 : decode cX0_moveTargetOn 5 = .ok (.invokevirtual 81, 3) := by decide +kernel
theorem dX0_moveTargetOn_8 : decode cX0_moveTargetOn 8 = .ok (.iconst 1, 1) := by decide +kernel
theorem dX0_moveTargetOn_9 : decode cX0_moveTargetOn 9 = .ok (.iadd, 1) := by decide +kernel
theorem dX0_moveTargetOn_10 : decode cX0_moveTargetOn 10 = .ok (.invokevirtual 89, 3) := by decide +kernel
theorem dX0_moveTargetOn_13 : decode cX0_moveTargetOn 13 = .ok (.istore_n 2, 1) := by decide +kernel
theorem dX0_moveTargetOn_14 : decode cX0_moveTargetOn 14 = .ok (.iload_n 2, 1) := by decide +kernel
theorem dX0_moveTargetOn_15 : decode cX0_moveTargetOn 15 = .ok (.ifCond .ne 43, 3) := by decide +kernel
theorem dX0_moveTargetOn_18 : decode cX0_moveTargetOn 18 = .ok (.aload_n 0, 1) := by decide +kernel
theorem dX0_moveTargetOn_19 : decode cX0_moveTargetOn 19 = .ok (.iload_n 1, 1) := by decide +kernel
theorem dX0_moveTargetOn_20 : decode cX0_moveTargetOn 20 = .ok (.iconst 4, 1) := by decide +kernel
theorem dX0_moveTargetOn_21 : decode cX0_moveTargetOn 21 = .ok (.aload_n 0, 1) := by decide +kernel
theorem dX0_moveTargetOn_22 : decode cX0_moveTargetOn 22 = .ok (.iload_n 1, 1) := by decide +kernel
theorem dX0_moveTargetOn_23 : decode cX0_moveTargetOn 23 = .ok (.iconst 4, 1) := by decide +kernel
theorem dX0_moveTargetOn_24 : decode cX0_moveTargetOn 24 = .ok (.invokevirtual 81, 3) := by decide +kernel
theorem dX0_moveTargetOn_27 : decode cX0_moveTargetOn 27 = .ok (.iconst 1, 1) := by decide +kernel
theorem dX0_moveTargetOn_28 : decode cX0_moveTargetOn 28 = .ok (.iadd, 1) := by decide +kernel
theorem dX0_moveTargetOn_29 : decode cX0_moveTargetOn 29 = .ok (.invokevirtual 68, 3) := by decide +kernel
theorem dX0_moveTargetOn_32 : decode cX0_moveTargetOn 32 = .ok (.aload_n 0, 1) := by decide +kernel
theorem dX0_moveTargetOn_33 : decode cX0_moveTargetOn 33 = .ok (.iload_n 1, 1) := by decide +kernel
theorem dX0_moveTargetOn_34 : decode cX0_moveTargetOn 34 = .ok (.iconst 3, 1) := by decide +kernel
theorem dX0_moveTargetOn_35 : decode cX0_moveTargetOn 35 = .ok (.bipush 9, 2) := by decide +kernel
theorem dX0_moveTargetOn_37 : decode cX0_moveTargetOn 37 = .ok (.aload_n 0, 1) := by decide +kernel
theorem dX0_moveTargetOn_38 : decode cX0_moveTargetOn 38 = .ok (.iload_n 1, 1) := by decide +kernel
theorem dX0_moveTargetOn_39 : decode cX0_moveTargetOn 39 = .ok (.iconst 3, 1) := by decide +kernel
theorem dX0_moveTargetOn_40 : decode cX0_moveTargetOn 40 = .ok (.invokevirtual 81, 3) := by decide +kernel
theorem dX0_moveTargetOn_43 : decode cX0_moveTargetOn 43 = .ok (.iconst 1, 1) := by decide +kernel
theorem dX0_moveTargetOn_44 : decode cX0_moveTargetOn 44 = .ok (.iadd, 1) := by decide +kernel
theorem dX0_moveTargetOn_45 : decode cX0_moveTargetOn 45 = .ok (.invokestatic 100, 3) := by decide +kernel
theorem dX0_moveTargetOn_48 : decode cX0_moveTargetOn 48 = .ok (.invokevirtual 68, 3) := by decide +kernel
theorem dX0_moveTargetOn_51 : decode cX0_moveTargetOn 51 = .ok (.aload_n 0, 1) := by decide +kernel
theorem dX0_moveTargetOn_52 : decode cX0_moveTargetOn 52 = .ok (.iload_n 1, 1) := by decide +kernel
theorem dX0_moveTargetOn_53 : decode cX0_moveTargetOn 53 = .ok (.iconst 1, 1) := by decide +kernel
theorem dX0_moveTargetOn_54 : decode cX0_moveTargetOn 54 = .ok (.invokevirtual 89, 3) := by decide +kernel
theorem dX0_moveTargetOn_57 : decode cX0_moveTargetOn 57 = .ok (.istore_n 2, 1) := by decide +kernel
theorem dX0_moveTargetOn_58 : decode cX0_moveTargetOn 58 = .ok (.aload_n 0, 1) := by decide +kernel
theorem dX0_moveTargetOn_59 : decode cX0_moveTargetOn 59 = .ok (.iload_n 1, 1) := by decide +kernel
theorem dX0_moveTargetOn_60 : decode cX0_moveTargetOn 60 = .ok (.iconst 2, 1) := by decide +kernel
theorem dX0_moveTargetOn_61 : decode cX0_moveTargetOn 61 = .ok (.iload_n 2, 1) := by decide +kernel
theorem dX0_moveTargetOn_62 : decode cX0_moveTargetOn 62 = .ok (.invokevirtual 68, 3) := by decide +kernel
theorem dX0_moveTargetOn_65 : decode cX0_moveTargetOn 65 = .ok (.return_, 1) := by decide +kernel
theorem eX0_moveTargetOn {c : Nat} {W : zWd} {a : Int → Int} {T : Int} {q : Int} {Q : Option Value → zWd → Prop} {X : zX} (hc : zCt c) (hR : zCR W c a) (hw : zWf T a) (hT : T + 1 ≤ 100000000) (hq1 : 0 ≤ q) (hq2 : q < a 2) (hq : ∀ W' : zWd, zOff c W W' → zCR W' c (aMove a q) → Q none W') : Ev MX0_moveTargetOn 2 0 W [.ref c, zI q] Q X := by
  refine ev_of (ls := [.ref c, zI q, .null]) (by decide) rfl (fun _ => rfl) (fun _ => Nat.le_of_ble_eq_true rfl) (Or.inl rfl) ?_
  obtain ⟨r0, r1, r2, r3, r4, r5, r6, r7, rF, rS, rP, rB⟩ := id hR
  obtain ⟨w0, w0', wW, w1, w2, w2', w3, w3', w4, w4', w5, w5', w6, w6', w7, w7', wS, wP, wT⟩ := id hw
  have wq := zWf.sq hw
  have hm := rP q hq1 hq2
  have hm2 := wP q hq1 hq2
  unfold zWfP at hm2
  have ho := aOpen_rng (a := a) (p := q) (s := aP a q 2 + 1) (by omega) (by omega)
  refine rr_aload_n (pc := 0) dX0_moveTargetOn_0 rfl ?_
  refine rr_iload_n (pc := 1) dX0_moveTargetOn_1 rfl ?_
  refine rr_aload_n (pc := 2) dX0_moveTargetOn_2 rfl ?_
  refine rr_iload_n (pc := 3) dX0_moveTargetOn_3 rfl ?_
  refine rr_iconst (n := 2) dX0_moveTargetOn_4 ?_
  refine rr_inv0 (M' := MX0_get) (k := c) (As := [_, _]) (pc := 5) dX0_moveTargetOn_5 lX0_81 kX0_get vX0_get hc.k (by decide) rfl (by decide) (by decide) (Nat.le_of_ble_eq_true rfl) rfl (eX0_get hc (by omega) (by omega) (by omega) (by omega) ?_)
  rw [hm.2.2.1]
  refine rr_iconst (n := 1) dX0_moveTargetOn_8 ?_
  refine rr_iadd (pc := 9) dX0_moveTargetOn_9 ?_
  refine rr_inv0 (M' := MX0_firstAllowed) (k := c) (As := [_, _]) (pc := 10) dX0_moveTargetOn_10 lX0_89 kX0_firstAllowed vX0_firstAllowed hc.k (by decide) rfl (by decide) (by decide) (Nat.le_of_ble_eq_true rfl) rfl (eX0_firstAllowed hc hR hw (by omega) (by omega) (by unfold zR; omega) ?_)
  refine rr_istore_n (pc := 13) dX0_moveTargetOn_13 (by decide) ?_
  refine rr_iload_n (pc := 14) dX0_moveTargetOn_14 rfl ?_
  refine rr_if_ne (pc := 15) (tgt := 58) dX0_moveTargetOn_15 (by decide) (by unfold zR; omega) (fun h15 => ?_) (fun h15 => ?_)
  · refine rr_aload_n (pc := 58) dX0_moveTargetOn_58 rfl ?_
    refine rr_iload_n (pc := 59) dX0_moveTargetOn_59 rfl ?_
    refine rr_iconst (n := 2) dX0_moveTargetOn_60 ?_
    refine rr_iload_n (pc := 61) dX0_moveTargetOn_61 rfl ?_
    refine rr_inv0 (M' := MX0_put) (k := c) (As := [_, _, _]) (pc := 62) dX0_moveTargetOn_62 lX0_68 kX0_put vX0_put hc.k (by decide) rfl (by decide) (by decide) (Nat.le_of_ble_eq_true rfl) rfl (eX0_put hc (by omega) (by omega) (by omega) (by omega) ?_)
    exact rr_retv (pc := 65) dX0_moveTargetOn_65 rfl rfl (hq _ (zOff.rf.up (by omega)) (by rw [show aMove a q = _ from if_neg h15]; exact CR_P hR hq1 (by unfold zPj; omega)))
  · refine rr_aload_n (pc := 18) dX0_moveTargetOn_18 rfl ?_
    refine rr_iload_n (pc := 19) dX0_moveTargetOn_19 rfl ?_
    refine rr_iconst (n := 4) dX0_moveTargetOn_20 ?_
    refine rr_aload_n (pc := 21) dX0_moveTargetOn_21 rfl ?_
    refine rr_iload_n (pc := 22) dX0_moveTargetOn_22 rfl ?_
    refine rr_iconst (n := 4) dX0_moveTargetOn_23 ?_
    refine rr_inv0 (M' := MX0_get) (k := c) (As := [_, _]) (pc := 24) dX0_moveTargetOn_24 lX0_81 kX0_get vX0_get hc.k (by decide) rfl (by decide) (by decide) (Nat.le_of_ble_eq_true rfl) rfl (eX0_get hc (by omega) (by omega) (by omega) (by omega) ?_)
    rw [hm.2.2.2.2.1]
    refine rr_iconst (n := 1) dX0_moveTargetOn_27 ?_
    refine rr_iadd (pc := 28) dX0_moveTargetOn_28 ?_
    refine rr_inv0 (M' := MX0_put) (k := c) (As := [_, _, _]) (pc := 29) dX0_moveTargetOn_29 lX0_68 kX0_put vX0_put hc.k (by decide) rfl (by decide) (by decide) (Nat.le_of_ble_eq_true rfl) rfl (eX0_put hc (by omega) (by omega) (by omega) (by omega) ?_)
    have c1 := CR_P (j := 4) (w := 4) (v := aP a q 4 + 1) (v' := aP a q 4 + 1) hR hq1 (by unfold zPj; omega)
    have o1 : zOff c W (zup W (c + 5) (q * 10 + 4) (aP a q 4 + 1)) := zOff.rf.up (by omega)
    have f1 := WF_P (w := 4) (v := aP a q 4 + 1) (p := q) (hw.mono (T' := T + 1) (by omega) hT) hq1 (by unfold zWr; omega)
    generalize zup W (c + 5) (q * 10 + 4) (aP a q 4 + 1) = W1 at c1 o1 ⊢
    have hm1 := (c1.2.2.2.2.2.2.2.2.2.2.1 q hq1 (by rw [iup_n (by omega)]; exact hq2)).2.2.2.1
    rw [aP_up (by omega)] at hm1
    refine rr_aload_n (pc := 32) dX0_moveTargetOn_32 rfl ?_
    refine rr_iload_n (pc := 33) dX0_moveTargetOn_33 rfl ?_
    refine rr_iconst (n := 3) dX0_moveTargetOn_34 ?_
    refine rr_bipush (n := (9)) dX0_moveTargetOn_35 ?_
    refine rr_aload_n (pc := 37) dX0_moveTargetOn_37 rfl ?_
    refine rr_iload_n (pc := 38) dX0_moveTargetOn_38 rfl ?_
    refine rr_iconst (n := 3) dX0_moveTargetOn_39 ?_
    refine rr_inv0 (M' := MX0_get) (k := c) (As := [_, _]) (pc := 40) dX0_moveTargetOn_40 lX0_81 kX0_get vX0_get hc.k (by decide) rfl (by decide) (by decide) (Nat.le_of_ble_eq_true rfl) rfl (eX0_get hc (by omega) (by omega) (by omega) (by omega) ?_)
    rw [hm1]
    refine rr_iconst (n := 1) dX0_moveTargetOn_43 ?_
    refine rr_iadd (pc := 44) dX0_moveTargetOn_44 ?_
    refine rr_min (pc := 45) dX0_moveTargetOn_45 lX0_100 z_mmin (by unfold zR; omega) (by unfold zR; omega) (by decide) (Nat.le_of_ble_eq_true rfl) ?_
    refine rr_inv0 (M' := MX0_put) (k := c) (As := [_, _, _]) (pc := 48) dX0_moveTargetOn_48 lX0_68 kX0_put vX0_put hc.k (by decide) rfl (by decide) (by decide) (Nat.le_of_ble_eq_true rfl) rfl (eX0_put hc (by omega) (by omega) (by omega) (by omega) ?_)
    have c2 := CR_P (j := 3) (w := 3) (v := if aP a q 3 + 1 < 9 then aP a q 3 + 1 else 9) (v' := if aP a q 3 + 1 < 9 then aP a q 3 + 1 else 9) c1 hq1 (by unfold zPj; omega)
    have o2 := o1.tr (zOff.rf.up (n := c + 5) (i := q * 10 + 3) (v := if aP a q 3 + 1 < 9 then aP a q 3 + 1 else 9) (by omega))
    have f2 := WF_P (w := 3) (v := if aP a q 3 + 1 < 9 then aP a q 3 + 1 else 9) (p := q) f1 hq1 (by unfold zWr; split <;> omega)
    generalize zup W1 (c + 5) (q * 10 + 3) (if aP a q 3 + 1 < 9 then aP a q 3 + 1 else 9) = W2 at c2 o2 ⊢
    refine rr_aload_n (pc := 51) dX0_moveTargetOn_51 rfl ?_
    refine rr_iload_n (pc := 52) dX0_moveTargetOn_52 rfl ?_
    refine rr_iconst (n := 1) dX0_moveTargetOn_53 ?_
    refine rr_inv0 (M' := MX0_firstAllowed) (k := c) (As := [_, _]) (pc := 54) dX0_moveTargetOn_54 lX0_89 kX0_firstAllowed vX0_firstAllowed hc.k (by decide) rfl (by decide) (by decide) (Nat.le_of_ble_eq_true rfl) rfl (eX0_firstAllowed hc c2 f2 (by omega) (by rw [iup_n (by omega), iup_n (by omega)]; omega) (by unfold zR; omega) ?_)
    rw [aOpen_upP hq1 (by omega) (by rw [iup_n (by omega)]; omega), aOpen_upP hq1 (by omega) (by omega)]
    refine rr_istore_n (pc := 57) dX0_moveTargetOn_57 (by decide) ?_
    refine rr_aload_n (pc := 58) dX0_moveTargetOn_58 rfl ?_
    refine rr_iload_n (pc := 59) dX0_moveTargetOn_59 rfl ?_
    refine rr_iconst (n := 2) dX0_moveTargetOn_60 ?_
    refine rr_iload_n (pc := 61) dX0_moveTargetOn_61 rfl ?_
    refine rr_inv0 (M' := MX0_put) (k := c) (As := [_, _, _]) (pc := 62) dX0_moveTargetOn_62 lX0_68 kX0_put vX0_put hc.k (by decide) rfl (by decide) (by decide) (Nat.le_of_ble_eq_true rfl) rfl (eX0_put hc (by omega) (by omega) (by omega) (by omega) ?_)
    exact rr_retv (pc := 65) dX0_moveTargetOn_65 rfl rfl (hq _ (o2.up (by omega)) (by rw [show aMove a q = _ from if_pos h15]; exact CR_P c2 hq1 (by unfold zPj; omega)))
theorem aEnd_eq {a : Int → Int} {x : Int → Int} {fault p : Int} (hp : p = a 4) (h0 : 0 ≤ p) (hp2 : p < a 2)
    (h : x = iup (aFlt (iup (iup (iup a 5 (a 5 + 1)) (58 + 17 * p + 6) (aP a p 6 + 1)) (58 + 17 * p + 8) fault) p fault) 4 (if p + 1 < a 2 then p + 1 else 0)) : x = aEnd (aFlt a p fault) p fault := by
  have hm : (p + 1) % a 2 = if p + 1 < a 2 then p + 1 else 0 := by
    by_cases q : p + 1 < a 2
    · rw [if_pos q, Int.emod_eq_of_lt (by omega) q]
    · rw [if_neg q, show p + 1 = a 2 by omega, Int.emod_self]
  have h2 : aFlt a p fault 2 = a 2 := by unfold aFlt; split; rfl; exact iup_n (by omega)
  subst h
  unfold aEnd
  rw [h2, hm]
  funext j
  unfold aFlt aP
  by_cases hf : fault = 0
  · simp only [if_pos hf, iup]
    (repeat' split) <;> first | rfl | omega
  · simp only [if_neg hf, iup]
    (repeat' split) <;> first | rfl | omega | (simp at *; omega)
theorem dX0_endTurn_0 : decode cX0_endTurn 0 = .ok (.aload_n 0, 1) := by decide +kernel
theorem dX0_endTurn_1 : decode cX0_endTurn 1 = .ok (.dup, 1) := by decide +kernel
theorem dX0_endTurn_2 : decode cX0_endTurn 2 = .ok (.getfield 53, 3) := by decide +kernel
theorem dX0_endTurn_5 : decode cX0_endTurn 5 = .ok (.iconst 1, 1) := by decide +kernel
theorem dX0_endTurn_6 : decode cX0_endTurn 6 = .ok (.iadd, 1) := by decide +kernel
theorem dX0_endTurn_7 : decode cX0_endTurn 7 = .ok (.putfield 53, 3) := by decide +kernel
theorem dX0_endTurn_10 : decode cX0_endTurn 10 = .ok (.aload_n 0, 1) := by decide +kernel
theorem dX0_endTurn_11 : decode cX0_endTurn 11 = .ok (.aload_n 0, 1) := by decide +kernel
theorem dX0_endTurn_12 : decode cX0_endTurn 12 = .ok (.getfield 50, 3) := by decide +kernel
theorem dX0_endTurn_15 : decode cX0_endTurn 15 = .ok (.bipush 7, 2) := by decide +kernel
theorem dX0_endTurn_17 : decode cX0_endTurn 17 = .ok (.aload_n 0, 1) := by decide +kernel
theorem dX0_endTurn_18 : decode cX0_endTurn 18 = .ok (.aload_n 0, 1) := by decide +kernel
theorem dX0_endTurn_19 : decode cX0_endTurn 19 = .ok (.getfield 50, 3) := by decide +kernel
theorem dX0_endTurn_22 : decode cX0_endTurn 22 = .ok (.bipush 7, 2) := by decide +kernel
theorem dX0_endTurn_24 : decode cX0_endTurn 24 = .ok (.invokevirtual 81, 3) := by decide +kernel
theorem dX0_endTurn_27 : decode cX0_endTurn 27 = .ok (.iconst 1, 1) := by decide +kernel
theorem dX0_endTurn_28 : decode cX0_endTurn 28 = .ok (.iadd, 1) := by decide +kernel
theorem dX0_endTurn_29 : decode cX0_endTurn 29 = .ok (.invokevirtual 68, 3) := by decide +kernel
theorem dX0_endTurn_32 : decode cX0_endTurn 32 = .ok (.aload_n 0, 1) := by decide +kernel
theorem dX0_endTurn_33 : decode cX0_endTurn 33 = .ok (.aload_n 0, 1) := by decide +kernel
theorem dX0_endTurn_34 : decode cX0_endTurn 34 = .ok (.getfield 50, 3) := by decide +kernel
theorem dX0_endTurn_37 : decode cX0_endTurn 37 = .ok (.bipush 9, 2) := by decide +kernel
theorem dX0_endTurn_39 : decode cX0_endTurn 39 = .ok (.iload_n 1, 1) := by decide +kernel
theorem dX0_endTurn_40 : decode cX0_endTurn 40 = .ok (.invokevirtual 68, 3) := by decide +kernel
theorem dX0_endTurn_43 : decode cX0_endTurn 43 = .ok (.iload_n 1, 1) := by decide +kernel
theorem dX0_endTurn_44 : decode cX0_endTurn 44 = .ok (.ifCond .eq 25, 3) := by decide +kernel
theorem dX0_endTurn_47 : decode cX0_endTurn 47 = .ok (.aload_n 0, 1) := by decide +kernel
theorem dX0_endTurn_48 : decode cX0_endTurn 48 = .ok (.aload_n 0, 1) := by decide +kernel
theorem dX0_endTurn_49 : decode cX0_endTurn 49 = .ok (.getfield 50, 3) := by decide +kernel
theorem dX0_endTurn_52 : decode cX0_endTurn 52 = .ok (.bipush 8, 2) := by decide +kernel
theorem dX0_endTurn_54 : decode cX0_endTurn 54 = .ok (.aload_n 0, 1) := by decide +kernel
theorem dX0_endTurn_55 : decode cX0_endTurn 55 = .ok (.aload_n 0, 1) := by decide +kernel
theorem dX0_endTurn_56 : decode cX0_endTurn 56 = .ok (.getfield 50, 3) := by decide +kernel
theorem dX0_endTurn_59 : decode cX0_endTurn 59 = .ok (.bipush 8, 2) := by decide +kernel
theorem dX0_endTurn_61 : decode cX0_endTurn 61 = .ok (.invokevirtual 81, 3) := by decide +kernel
theorem dX0_endTurn_64 : decode cX0_endTurn 64 = .ok (.iconst 1, 1) := by decide +kernel
theorem dX0_endTurn_65 : decode cX0_endTurn 65 = .ok (.iadd, 1) := by decide +kernel
theorem dX0_endTurn_66 : decode cX0_endTurn 66 = .ok (.invokevirtual 68, 3) := by decide +kernel
theorem dX0_endTurn_69 : decode cX0_endTurn 69 = .ok (.aload_n 0, 1) := by decide +kernel
theorem dX0_endTurn_70 : decode cX0_endTurn 70 = .ok (.aload_n 0, 1) := by decide +kernel
theorem dX0_endTurn_71 : decode cX0_endTurn 71 = .ok (.getfield 50, 3) := by decide +kernel
theorem dX0_endTurn_74 : decode cX0_endTurn 74 = .ok (.iconst 1, 1) := by decide +kernel
theorem dX0_endTurn_75 : decode cX0_endTurn 75 = .ok (.iadd, 1) := by decide +kernel
theorem dX0_endTurn_76 : decode cX0_endTurn 76 = .ok (.aload_n 0, 1) := by decide +kernel
theorem dX0_endTurn_77 : decode cX0_endTurn 77 = .ok (.getfield 44, 3) := by decide +kernel
theorem dX0_endTurn_80 : decode cX0_endTurn 80 = .ok (.if_icmp .ge 12, 3) := by decide +kernel
theorem dX0_endTurn_83 : decode cX0_endTurn 83 = .ok (.aload_n 0, 1) := by decide +kernel
theorem dX0_endTurn_84 : decode cX0_endTurn 84 = .ok (.getfield 50, 3) := by decide +kernel
theorem dX0_endTurn_87 : decode cX0_endTurn 87 = .ok (.iconst 1, 1) := by decide +kernel
theorem dX0_endTurn_88 : decode cX0_endTurn 88 = .ok (.iadd, 1) := by decide +kernel
theorem dX0_endTurn_89 : decode cX0_endTurn 89 = .ok (.goto 4, 3) := by decide +kernel
theorem dX0_endTurn_92 : decode cX0_endTurn 92 = .ok (.iconst 0, 1) := by decide +kernel
theorem dX0_endTurn_93 : decode cX0_endTurn 93 = .ok (.putfield 50, 3) := by decide +kernel
theorem dX0_endTurn_96 : decode cX0_endTurn 96 = .ok (.return_, 1) := by decide +kernel
theorem eX0_endTurn {c : Nat} {W : zWd} {a : Int → Int} {T : Int} {f : Int} {Q : Option Value → zWd → Prop} {X : zX} (hc : zCt c) (hR : zCR W c a) (hw : zWf T a) (hf0 : 0 ≤ f) (hf5 : f ≤ 5) (hq : ∀ W' : zWd, zOff c W W' → zCR W' c (aEnd (aFlt a (a 4) f) (a 4) f) → Q none W') : Ev MX0_endTurn 1 0 W [.ref c, zI f] Q X := by
  refine ev_of (ls := [.ref c, zI f]) (by decide) rfl (fun _ => rfl) (fun _ => Nat.le_of_ble_eq_true rfl) (Or.inl rfl) ?_
  obtain ⟨r0, r1, r2, r3, r4, r5, r6, r7, rF, rS, rP, rB⟩ := id hR
  obtain ⟨w0, w0', wW, w1, w2, w2', w3, w3', w4, w4', w5, w5', w6, w6', w7, w7', wS, wP, wT⟩ := id hw
  have wq := zWf.sq hw
  have hm2 := wP (a 4) w4 w4'
  unfold zWfP at hm2
  refine rr_aload_n (pc := 0) dX0_endTurn_0 rfl ?_
  refine rr_dup_r (pc := 1) dX0_endTurn_1 ?_
  refine rr_getI (pc := 2) (ji := 5) dX0_endTurn_2 fX0_53 hc.k hc.i5 rfl ?_
  rw [r5]
  refine rr_iconst (n := 1) dX0_endTurn_5 ?_
  refine rr_iadd (pc := 6) dX0_endTurn_6 ?_
  refine rr_put (pc := 7) (ji := 5) dX0_endTurn_7 fX0_53 fp_0_5 hc.k hc.i5 rfl ?_
  have c0 := CR_0 (j := 5) (v := a 5 + 1) hR (by omega)
  have o0 : zOff c W (zup W c 5 (a 5 + 1)) := zOff.rf.up (by omega)
  generalize zup W c 5 (a 5 + 1) = W0 at c0 o0 ⊢
  have t0 : iup a 5 (a 5 + 1) 4 = a 4 := iup_n (by omega)
  refine rr_aload_n (pc := 10) dX0_endTurn_10 rfl ?_
  refine rr_aload_n (pc := 11) dX0_endTurn_11 rfl ?_
  refine rr_getI (pc := 12) (ji := 4) dX0_endTurn_12 fX0_50 hc.k hc.i4 rfl ?_
  rw [c0.2.2.2.2.1, t0]
  refine rr_bipush (n := (7)) dX0_endTurn_15 ?_
  refine rr_aload_n (pc := 17) dX0_endTurn_17 rfl ?_
  refine rr_aload_n (pc := 18) dX0_endTurn_18 rfl ?_
  refine rr_getI (pc := 19) (ji := 4) dX0_endTurn_19 fX0_50 hc.k hc.i4 rfl ?_
  rw [c0.2.2.2.2.1, t0]
  refine rr_bipush (n := (7)) dX0_endTurn_22 ?_
  refine rr_inv0 (M' := MX0_get) (k := c) (As := [_, _]) (pc := 24) dX0_endTurn_24 lX0_81 kX0_get vX0_get hc.k (by decide) rfl (by decide) (by decide) (Nat.le_of_ble_eq_true rfl) rfl (eX0_get hc (by omega) (by omega) (by omega) (by omega) ?_)
  rw [(c0.2.2.2.2.2.2.2.2.2.2.1 (a 4) w4 (by rw [iup_n (by omega)]; exact w4')).2.2.2.2.2.2.1, show aP (iup a 5 (a 5 + 1)) (a 4) 6 = aP a (a 4) 6 from iup_n (by omega)]
  refine rr_iconst (n := 1) dX0_endTurn_27 ?_
  refine rr_iadd (pc := 28) dX0_endTurn_28 ?_
  refine rr_inv0 (M' := MX0_put) (k := c) (As := [_, _, _]) (pc := 29) dX0_endTurn_29 lX0_68 kX0_put vX0_put hc.k (by decide) rfl (by decide) (by decide) (Nat.le_of_ble_eq_true rfl) rfl (eX0_put hc (by omega) (by omega) (by omega) (by omega) ?_)
  have c1 := CR_P (j := 7) (w := 6) (v := aP a (a 4) 6 + 1) (v' := aP a (a 4) 6 + 1) c0 w4 (by unfold zPj; omega)
  have o1 := o0.tr (zOff.rf.up (n := c + 5) (i := a 4 * 10 + 7) (v := aP a (a 4) 6 + 1) (by omega))
  generalize zup W0 (c + 5) (a 4 * 10 + 7) (aP a (a 4) 6 + 1) = W1 at c1 o1 ⊢
  have t1 : iup (iup a 5 (a 5 + 1)) (58 + 17 * a 4 + 6) (aP a (a 4) 6 + 1) 4 = a 4 := by rw [iup_n (by omega)]; exact t0
  refine rr_aload_n (pc := 32) dX0_endTurn_32 rfl ?_
  refine rr_aload_n (pc := 33) dX0_endTurn_33 rfl ?_
  refine rr_getI (pc := 34) (ji := 4) dX0_endTurn_34 fX0_50 hc.k hc.i4 rfl ?_
  rw [c1.2.2.2.2.1, t1]
  refine rr_bipush (n := (9)) dX0_endTurn_37 ?_
  refine rr_iload_n (pc := 39) dX0_endTurn_39 rfl ?_
  refine rr_inv0 (M' := MX0_put) (k := c) (As := [_, _, _]) (pc := 40) dX0_endTurn_40 lX0_68 kX0_put vX0_put hc.k (by decide) rfl (by decide) (by decide) (Nat.le_of_ble_eq_true rfl) rfl (eX0_put hc (by omega) (by omega) (by omega) (by omega) ?_)
  have c2 := CR_P (j := 9) (w := 8) (v := f) (v' := f) c1 w4 (by unfold zPj; omega)
  have o2 := o1.tr (zOff.rf.up (n := c + 5) (i := a 4 * 10 + 9) (v := f) (by omega))
  generalize zup W1 (c + 5) (a 4 * 10 + 9) (f) = W2 at c2 o2 ⊢
  have t2 : iup (iup (iup a 5 (a 5 + 1)) (58 + 17 * a 4 + 6) (aP a (a 4) 6 + 1)) (58 + 17 * a 4 + 8) f 4 = a 4 := by rw [iup_n (by omega)]; exact t1
  refine rr_iload_n (pc := 43) dX0_endTurn_43 rfl ?_
  refine rr_if_eq (pc := 44) (tgt := 69) dX0_endTurn_44 (by decide) (by unfold zR; omega) (fun h44 => ?_) (fun h44 => ?_)
  · have c3 := c2
    rw [show iup (iup (iup a 5 (a 5 + 1)) (58 + 17 * a 4 + 6) (aP a (a 4) 6 + 1)) (58 + 17 * a 4 + 8) f = aFlt (iup (iup (iup a 5 (a 5 + 1)) (58 + 17 * a 4 + 6) (aP a (a 4) 6 + 1)) (58 + 17 * a 4 + 8) f) (a 4) f from (if_pos h44).symm] at c3
    have o3 := o2
    generalize W2 = W3 at c3 o3 ⊢
    have t3 : aFlt (iup (iup (iup a 5 (a 5 + 1)) (58 + 17 * a 4 + 6) (aP a (a 4) 6 + 1)) (58 + 17 * a 4 + 8) f) (a 4) f 4 = a 4 := by unfold aFlt; rw [if_pos h44]; exact t2
    have u3 : aFlt (iup (iup (iup a 5 (a 5 + 1)) (58 + 17 * a 4 + 6) (aP a (a 4) 6 + 1)) (58 + 17 * a 4 + 8) f) (a 4) f 2 = a 2 := by unfold aFlt; rw [if_pos h44, iup_n (by omega), iup_n (by omega), iup_n (by omega)]
    refine rr_aload_n (pc := 69) dX0_endTurn_69 rfl ?_
    refine rr_aload_n (pc := 70) dX0_endTurn_70 rfl ?_
    refine rr_getI (pc := 71) (ji := 4) dX0_endTurn_71 fX0_50 hc.k hc.i4 rfl ?_
    rw [c3.2.2.2.2.1, t3]
    refine rr_iconst (n := 1) dX0_endTurn_74 ?_
    refine rr_iadd (pc := 75) dX0_endTurn_75 ?_
    refine rr_aload_n (pc := 76) dX0_endTurn_76 rfl ?_
    refine rr_getI (pc := 77) (ji := 2) dX0_endTurn_77 fX0_44 hc.k hc.i2 rfl ?_
    rw [c3.2.2.1, u3]
    refine rr_icmp_ge (pc := 80) (tgt := 92) dX0_endTurn_80 (by decide) (by unfold zR; omega) (by unfold zR; omega) (fun h80 => ?_) (fun h80 => ?_)
    · refine rr_iconst (n := 0) dX0_endTurn_92 ?_
      refine rr_put (pc := 93) (ji := 4) dX0_endTurn_93 fX0_50 fp_0_4 hc.k hc.i4 rfl ?_
      exact rr_retv (pc := 96) dX0_endTurn_96 rfl rfl (hq _ (o3.up (by omega)) (by rw [← aEnd_eq (x := iup _ 4 0) rfl w4 w4' (by rw [if_neg (by omega)])]; exact CR_0 c3 (by omega)))
    · refine rr_aload_n (pc := 83) dX0_endTurn_83 rfl ?_
      refine rr_getI (pc := 84) (ji := 4) dX0_endTurn_84 fX0_50 hc.k hc.i4 rfl ?_
      rw [c3.2.2.2.2.1, t3]
      refine rr_iconst (n := 1) dX0_endTurn_87 ?_
      refine rr_iadd (pc := 88) dX0_endTurn_88 ?_
      refine rr_goto (pc := 89) (tgt := 93) dX0_endTurn_89 (by decide) ?_
      refine rr_put (pc := 93) (ji := 4) dX0_endTurn_93 fX0_50 fp_0_4 hc.k hc.i4 rfl ?_
      exact rr_retv (pc := 96) dX0_endTurn_96 rfl rfl (hq _ (o3.up (by omega)) (by rw [← aEnd_eq (x := iup _ 4 (a 4 + 1)) rfl w4 w4' (by rw [if_pos (by omega)])]; exact CR_0 c3 (by omega)))
  · refine rr_aload_n (pc := 47) dX0_endTurn_47 rfl ?_
    refine rr_aload_n (pc := 48) dX0_endTurn_48 rfl ?_
    refine rr_getI (pc := 49) (ji := 4) dX0_endTurn_49 fX0_50 hc.k hc.i4 rfl ?_
    rw [c2.2.2.2.2.1, t2]
    refine rr_bipush (n := (8)) dX0_endTurn_52 ?_
    refine rr_aload_n (pc := 54) dX0_endTurn_54 rfl ?_
    refine rr_aload_n (pc := 55) dX0_endTurn_55 rfl ?_
    refine rr_getI (pc := 56) (ji := 4) dX0_endTurn_56 fX0_50 hc.k hc.i4 rfl ?_
    rw [c2.2.2.2.2.1, t2]
    refine rr_bipush (n := (8)) dX0_endTurn_59 ?_
    refine rr_inv0 (M' := MX0_get) (k := c) (As := [_, _]) (pc := 61) dX0_endTurn_61 lX0_81 kX0_get vX0_get hc.k (by decide) rfl (by decide) (by decide) (Nat.le_of_ble_eq_true rfl) rfl (eX0_get hc (by omega) (by omega) (by omega) (by omega) ?_)
    rw [(c2.2.2.2.2.2.2.2.2.2.2.1 (a 4) w4 (by rw [iup_n (by omega), iup_n (by omega), iup_n (by omega)]; exact w4')).2.2.2.2.2.2.2.1]
    refine rr_iconst (n := 1) dX0_endTurn_64 ?_
    refine rr_iadd (pc := 65) dX0_endTurn_65 ?_
    refine rr_inv0 (M' := MX0_put) (k := c) (As := [_, _, _]) (pc := 66) dX0_endTurn_66 lX0_68 kX0_put vX0_put hc.k (by decide) rfl (by decide) (by decide) (Nat.le_of_ble_eq_true rfl) rfl (eX0_put hc (by omega) (by omega) (by omega) (by omega) ?_)
    have c3 := CR_P (j := 8) (w := 7) (v := aP (iup (iup (iup a 5 (a 5 + 1)) (58 + 17 * a 4 + 6) (aP a (a 4) 6 + 1)) (58 + 17 * a 4 + 8) f) (a 4) 7 + 1) (v' := aP (iup (iup (iup a 5 (a 5 + 1)) (58 + 17 * a 4 + 6) (aP a (a 4) 6 + 1)) (58 + 17 * a 4 + 8) f) (a 4) 7 + 1) c2 w4 (by unfold zPj; omega)
    have o3 := o2.tr (zOff.rf.up (n := c + 5) (i := a 4 * 10 + 8) (v := aP (iup (iup (iup a 5 (a 5 + 1)) (58 + 17 * a 4 + 6) (aP a (a 4) 6 + 1)) (58 + 17 * a 4 + 8) f) (a 4) 7 + 1) (by omega))
    generalize zup W2 (c + 5) (a 4 * 10 + 8) _ = W3 at c3 o3 ⊢
    rw [show iup (iup (iup (iup a 5 (a 5 + 1)) (58 + 17 * a 4 + 6) (aP a (a 4) 6 + 1)) (58 + 17 * a 4 + 8) f) (58 + 17 * a 4 + 7) _ = aFlt (iup (iup (iup a 5 (a 5 + 1)) (58 + 17 * a 4 + 6) (aP a (a 4) 6 + 1)) (58 + 17 * a 4 + 8) f) (a 4) f from (if_neg h44).symm] at c3
    have t3 : aFlt (iup (iup (iup a 5 (a 5 + 1)) (58 + 17 * a 4 + 6) (aP a (a 4) 6 + 1)) (58 + 17 * a 4 + 8) f) (a 4) f 4 = a 4 := by unfold aFlt; rw [if_neg h44, iup_n (by omega)]; exact t2
    have u3 : aFlt (iup (iup (iup a 5 (a 5 + 1)) (58 + 17 * a 4 + 6) (aP a (a 4) 6 + 1)) (58 + 17 * a 4 + 8) f) (a 4) f 2 = a 2 := by unfold aFlt; rw [if_neg h44, iup_n (by omega), iup_n (by omega), iup_n (by omega), iup_n (by omega)]
    refine rr_aload_n (pc := 69) dX0_endTurn_69 rfl ?_
    refine rr_aload_n (pc := 70) dX0_endTurn_70 rfl ?_
    refine rr_getI (pc := 71) (ji := 4) dX0_endTurn_71 fX0_50 hc.k hc.i4 rfl ?_
    rw [c3.2.2.2.2.1, t3]
    refine rr_iconst (n := 1) dX0_endTurn_74 ?_
    refine rr_iadd (pc := 75) dX0_endTurn_75 ?_
    refine rr_aload_n (pc := 76) dX0_endTurn_76 rfl ?_
    refine rr_getI (pc := 77) (ji := 2) dX0_endTurn_77 fX0_44 hc.k hc.i2 rfl ?_
    rw [c3.2.2.1, u3]
    refine rr_icmp_ge (pc := 80) (tgt := 92) dX0_endTurn_80 (by decide) (by unfold zR; omega) (by unfold zR; omega) (fun h80 => ?_) (fun h80 => ?_)
    · refine rr_iconst (n := 0) dX0_endTurn_92 ?_
      refine rr_put (pc := 93) (ji := 4) dX0_endTurn_93 fX0_50 fp_0_4 hc.k hc.i4 rfl ?_
      exact rr_retv (pc := 96) dX0_endTurn_96 rfl rfl (hq _ (o3.up (by omega)) (by rw [← aEnd_eq (x := iup _ 4 0) rfl w4 w4' (by rw [if_neg (by omega)])]; exact CR_0 c3 (by omega)))
    · refine rr_aload_n (pc := 83) dX0_endTurn_83 rfl ?_
      refine rr_getI (pc := 84) (ji := 4) dX0_endTurn_84 fX0_50 hc.k hc.i4 rfl ?_
      rw [c3.2.2.2.2.1, t3]
      refine rr_iconst (n := 1) dX0_endTurn_87 ?_
      refine rr_iadd (pc := 88) dX0_endTurn_88 ?_
      refine rr_goto (pc := 89) (tgt := 93) dX0_endTurn_89 (by decide) ?_
      refine rr_put (pc := 93) (ji := 4) dX0_endTurn_93 fX0_50 fp_0_4 hc.k hc.i4 rfl ?_
      exact rr_retv (pc := 96) dX0_endTurn_96 rfl rfl (hq _ (o3.up (by omega)) (by rw [← aEnd_eq (x := iup _ 4 (a 4 + 1)) rfl w4 w4' (by rw [if_pos (by omega)])]; exact CR_0 c3 (by omega)))
