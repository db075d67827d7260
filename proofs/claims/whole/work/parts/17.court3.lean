def zOff (c : Nat) (W W' : zWd) : Prop := ∀ k : Nat, (k < c ∨ c + 8 ≤ k) → W' k = W k
theorem zOff.rf {c : Nat} {W : zWd} : zOff c W W := fun _ _ => rfl
theorem zOff.up {c n : Nat} {W W' : zWd} {i v : Int} (h : zOff c W W') (hn : c ≤ n ∧ n < c + 8) : zOff c W (zup W' n i v) := fun k hk => by
  rw [← h k hk]; exact zup_other k (by omega)
theorem zOff.tr {c : Nat} {W W' W'' : zWd} (h : zOff c W W') (h2 : zOff c W' W'') : zOff c W W'' := fun k hk => (h2 k hk).trans (h k hk)
theorem z_bit {u : Nat} {i : Int} : ((u : Int) / 2 ^ i.toNat % 2 ^ 1 = 1) ↔ u.testBit i.toNat = true := by
  rw [Nat.testBit_eq_decide_div_mod_eq, decide_eq_true_eq]
  have h1 : (u : Int) / 2 ^ i.toNat = ((u / 2 ^ i.toNat : Nat) : Int) := by
    rw [Int.natCast_ediv, Int.natCast_pow]; rfl
  rw [h1]
  omega
/-- places ahead of the players stay -/
theorem zLow {a a' : Int → Int} (h : ∀ j : Int, j < 18 → a' j = a j) : a' 0 = a 0 ∧ a' 1 = a 1 ∧ a' 2 = a 2 ∧ ∀ r : Nat, r ≤ 10 → aF a' r = aF a r :=
  ⟨h _ (by omega), h _ (by omega), h _ (by omega), aF_cg (fun j _ hj => h j hj)⟩
theorem aLd_low (P : Int → Bool) : ∀ (n : Nat) (s : Int) (a : Int → Int) (j : Int), 1 ≤ s → j < 18 → aLd P n s a j = a j := by
  intro n
  induction n with
  | zero => intro s a j _ _; rfl
  | succ n ih =>
    intro s a j hs hj
    unfold aLd
    rw [ih _ _ j (by omega) hj]
    split
    · exact iup_n (by omega)
    · rfl

theorem dX0_addLandings_0 : decode cX0_addLandings 0 = .ok (.iload_n 1, 1) := by decide +kernel
theorem dX0_addLandings_1 : decode cX0_addLandings 1 = .ok (.ifCond .lt 11, 3) := by decide +kernel
theorem dX0_addLandings_4 : decode cX0_addLandings 4 = .ok (.iload_n 1, 1) := by decide +kernel
theorem dX0_addLandings_5 : decode cX0_addLandings 5 = .ok (.aload_n 0, 1) := by decide +kernel
theorem dX0_addLandings_6 : decode cX0_addLandings 6 = .ok (.getfield 37, 3) := by decide +kernel
theorem dX0_addLandings_9 : decode cX0_addLandings 9 = .ok (.if_icmp .lt 4, 3) := by decide +kernel
theorem dX0_addLandings_12 : decode cX0_addLandings 12 = .ok (.return_, 1) := by decide +kernel
theorem dX0_addLandings_13 : decode cX0_addLandings 13 = .ok (.aload_n 0, 1) := by decide +kernel
theorem dX0_addLandings_14 : decode cX0_addLandings 14 = .ok (.getfield 9, 3) := by decide +kernel
theorem dX0_addLandings_17 : decode cX0_addLandings 17 = .ok (.iload_n 1, 1) := by decide +kernel
theorem dX0_addLandings_18 : decode cX0_addLandings 18 = .ok (.iaload, 1) := by decide +kernel
theorem dX0_addLandings_19 : decode cX0_addLandings 19 = .ok (.istore_n 3, 1) := by decide +kernel
theorem dX0_addLandings_20 : decode cX0_addLandings 20 = .ok (.iload_n 3, 1) := by decide +kernel
theorem dX0_addLandings_21 : decode cX0_addLandings 21 = .ok (.aload_n 0, 1) := by decide +kernel
theorem dX0_addLandings_22 : decode cX0_addLandings 22 = .ok (.getfield 9, 3) := by decide +kernel
theorem dX0_addLandings_25 : decode cX0_addLandings 25 = .ok (.iload_n 1, 1) := by decide +kernel
theorem dX0_addLandings_26 : decode cX0_addLandings 26 = .ok (.iconst 1, 1) := by decide +kernel
theorem dX0_addLandings_27 : decode cX0_addLandings 27 = .ok (.iadd, 1) := by decide +kernel
theorem dX0_addLandings_28 : decode cX0_addLandings 28 = .ok (.iaload, 1) := by decide +kernel
theorem dX0_addLandings_29 : decode cX0_addLandings 29 = .ok (.if_icmp .ge 28, 3) := by decide +kernel
theorem dX0_addLandings_32 : decode cX0_addLandings 32 = .ok (.iload_n 2, 1) := by decide +kernel
theorem dX0_addLandings_33 : decode cX0_addLandings 33 = .ok (.iload_n 3, 1) := by decide +kernel
theorem dX0_addLandings_34 : decode cX0_addLandings 34 = .ok (.ishr, 1) := by decide +kernel
theorem dX0_addLandings_35 : decode cX0_addLandings 35 = .ok (.iconst 1, 1) := by decide +kernel
theorem dX0_addLandings_36 : decode cX0_addLandings 36 = .ok (.iand, 1) := by decide +kernel
theorem dX0_addLandings_37 : decode cX0_addLandings 37 = .ok (.iconst 1, 1) := by decide +kernel
theorem dX0_addLandings_38 : decode cX0_addLandings 38 = .ok (.if_icmp .ne 13, 3) := by decide +kernel
theorem dX0_addLandings_41 : decode cX0_addLandings 41 = .ok (.aload_n 0, 1) := by decide +kernel
theorem dX0_addLandings_42 : decode cX0_addLandings 42 = .ok (.getfield 21, 3) := by decide +kernel
theorem dX0_addLandings_45 : decode cX0_addLandings 45 = .ok (.iload_n 3, 1) := by decide +kernel
theorem dX0_addLandings_46 : decode cX0_addLandings 46 = .ok (.dup2, 1) := by decide +kernel
theorem dX0_addLandings_47 : decode cX0_addLandings 47 = .ok (.iaload, 1) := by decide +kernel
theorem dX0_addLandings_48 : decode cX0_addLandings 48 = .ok (.iconst 1, 1) := by decide +kernel
theorem dX0_addLandings_49 : decode cX0_addLandings 49 = .ok (.iadd, 1) := by decide +kernel
theorem dX0_addLandings_50 : decode cX0_addLandings 50 = .ok (.iastore, 1) := by decide +kernel
theorem dX0_addLandings_51 : decode cX0_addLandings 51 = .ok (.iinc 3 1, 3) := by decide +kernel
theorem dX0_addLandings_54 : decode cX0_addLandings 54 = .ok (.goto (-34), 3) := by decide +kernel
theorem dX0_addLandings_57 : decode cX0_addLandings 57 = .ok (.return_, 1) := by decide +kernel
theorem eX0_addLandings {c : Nat} {W : zWd} {a : Int → Int} {T : Int} {r : Int} {u : Nat} {Q : Option Value → zWd → Prop} {X : zX} (hc : zCt c) (hR : zCR W c a) (hw : zWf T a) (hr9 : zR r) (hu : u < 2097152) (hq : ∀ W' : zWd, zOff c W W' → zCR W' c (aLand a r (fun s => u.testBit s.toNat)) → Q none W') : Ev MX0_addLandings 0 0 W [.ref c, zI r, zI (u : Int)] Q X := by
  refine ev_of (ls := [.ref c, zI r, zI (u : Int), .null]) (by decide) rfl (fun _ => rfl) (fun _ => Nat.le_of_ble_eq_true rfl) (Or.inl rfl) ?_
  obtain ⟨r0, r1, r2, r3, r4, r5, r6, r7, rF, rS, rP, rB⟩ := id hR
  obtain ⟨w0, w0', wW, w1, w2, w2', w3, w3', w4, w4', w5, w5', w6, w6', w7, w7', wS, wP, wT⟩ := id hw
  have wq := zWf.sq hw
  unfold zR at hr9
  by_cases hr : r < 0 ∨ a 0 ≤ r
  · have hLn : aLand a r (fun s => u.testBit s.toNat) = a := if_pos hr
    rw [hLn] at hq
    refine rr_iload_n (pc := 0) dX0_addLandings_0 rfl ?_
    refine rr_if_lt (pc := 1) (tgt := 12) dX0_addLandings_1 (by decide) (by unfold zR; omega) (fun h1 => ?_) (fun h1 => ?_)
    · exact rr_retv (pc := 12) dX0_addLandings_12 rfl rfl ((hq W zOff.rf hR))
    · refine rr_iload_n (pc := 4) dX0_addLandings_4 rfl ?_
      refine rr_aload_n (pc := 5) dX0_addLandings_5 rfl ?_
      refine rr_getI (pc := 6) (ji := 0) dX0_addLandings_6 fX0_37 hc.k hc.i0 rfl ?_
      rw [r0]
      refine rr_icmp_lt (pc := 9) (tgt := 13) dX0_addLandings_9 (by decide) (by unfold zR; omega) (by unfold zR; omega) (fun h9 => ?_) (fun h9 => ?_)
      · omega
      · exact rr_retv (pc := 12) dX0_addLandings_12 rfl rfl ((hq W zOff.rf hR))
  have e0 : W (c + 1) r = aF a r.toNat := by
    have h9 := rF r.toNat (by omega) (by omega)
    rw [show ((r.toNat : Nat) : Int) = r by omega] at h9; exact h9
  have hf := aF_lo hw (r := r.toNat) (by omega)
  have hf2 := aF_le hw (r := r.toNat + 1) (by omega)
  have hst := aF_step (a := a) r.toNat
  rw [show ((r.toNat : Nat) : Int) = r by omega] at hst
  have hww := wW r (by omega) (by omega)
  have loop : ∀ (n : Nat) (i : Int) (Wi : zWd) (ai : Int → Int), aF a r.toNat ≤ i → i ≤ aF a (r.toNat + 1) → zOff c W Wi → zCR Wi c ai → (∀ j : Int, j < 18 → ai j = a j) → aLd (fun s => u.testBit s.toNat) (aF a (r.toNat + 1) - i).toNat i ai = aLand a r (fun s => u.testBit s.toNat) → (aF a (r.toNat + 1) - i).toNat < n → RR MX0_addLandings 0 0 Wi 20 [.ref c, zI r, zI (u : Int), zI i] [] (zEnd MX0_addLandings Q X) X := by
    intro n
    induction n with
    | zero => intro i Wi ai _ _ _ _ _ _ hm9; omega
    | succ n ih =>
      intro i Wi ai h1 h2 hO hC hA hL hm9
      refine rr_iload_n (pc := 20) dX0_addLandings_20 rfl ?_
      refine rr_aload_n (pc := 21) dX0_addLandings_21 rfl ?_
      refine rr_getR (pc := 22) dX0_addLandings_22 fX0_9 hc.k hc.r8 ?_
      refine rr_iload_n (pc := 25) dX0_addLandings_25 rfl ?_
      refine rr_iconst (n := 1) dX0_addLandings_26 ?_
      refine rr_iadd (pc := 27) dX0_addLandings_27 ?_
      obtain ⟨l0, l1, l2, lF⟩ := zLow hA
      have g1 : Wi (c + 1) (r + 1) = aF a (r.toNat + 1) := by
        have h9 := hC.2.2.2.2.2.2.2.2.1 (r.toNat + 1) (by omega) (by omega)
        rw [show ((r.toNat + 1 : Nat) : Int) = r + 1 by omega, lF _ (by omega)] at h9; exact h9
      refine rr_iald (pc := 28) dX0_addLandings_28 hc.a1 (by omega) (by omega) ?_
      rw [g1]
      refine rr_icmp_ge (pc := 29) (tgt := 57) dX0_addLandings_29 (by decide) (by unfold zR; omega) (by unfold zR; omega) (fun h29 => ?_) (fun h29 => ?_)
      · exact rr_retv (pc := 57) dX0_addLandings_57 rfl rfl ((by rw [show (aF a (r.toNat + 1) - i).toNat = 0 by omega] at hL; exact hq Wi hO (by rw [← hL]; exact hC)))
      · refine rr_iload_n (pc := 32) dX0_addLandings_32 rfl ?_
        refine rr_iload_n (pc := 33) dX0_addLandings_33 rfl ?_
        refine rr_ishr (pc := 34) dX0_addLandings_34 (by unfold zR; omega) (by omega) (by omega) ?_
        refine rr_iconst (n := 1) dX0_addLandings_35 ?_
        refine rr_iandm (pc := 36) 1 dX0_addLandings_36 (by decide) rfl ?_
        refine rr_iconst (n := 1) dX0_addLandings_37 ?_
        refine rr_icmp_ne (pc := 38) (tgt := 51) dX0_addLandings_38 (by decide) (by unfold zR; omega) (by unfold zR; omega) (fun h38 => ?_) (fun h38 => ?_)
        · rw [show (aF a (r.toNat + 1) - i).toNat = (aF a (r.toNat + 1) - (i + 1)).toNat + 1 by omega] at hL
          unfold aLd at hL
          have hL9 := hL
          rw [if_neg (fun z => h38 (z_bit.mpr z))] at hL9
          refine rr_iinc (pc := 51) dX0_addLandings_51 rfl (by decide) ?_
          refine rr_goto (pc := 54) (tgt := 20) dX0_addLandings_54 (by decide) ?_
          exact ih (i + 1) _ _ (by omega) (by omega) hO hC hA hL9 (by omega)
        · rw [show (aF a (r.toNat + 1) - i).toNat = (aF a (r.toNat + 1) - (i + 1)).toNat + 1 by omega] at hL
          unfold aLd at hL
          have hL9 := hL
          rw [if_pos (z_bit.mp h38)] at hL9
          refine rr_aload_n (pc := 41) dX0_addLandings_41 rfl ?_
          refine rr_getR (pc := 42) dX0_addLandings_42 fX0_21 hc.k hc.r11 ?_
          refine rr_iload_n (pc := 45) dX0_addLandings_45 rfl ?_
          refine rr_dup2 (pc := 46) dX0_addLandings_46 ?_
          refine rr_iald (pc := 47) dX0_addLandings_47 hc.a4 (by omega) (by omega) ?_
          have hC9 := CR_S (o := 1) (v := Wi (c + 4) i + 1) hC (show 1 ≤ i by omega) (by omega) (Or.inr rfl)
          rw [if_neg (by decide), (hC.2.2.2.2.2.2.2.2.2.1 i (by omega) (by omega) (by omega)).2.2] at hC9
          rw [(hC.2.2.2.2.2.2.2.2.2.1 i (by omega) (by omega) (by omega)).2.2]
          refine rr_iconst (n := 1) dX0_addLandings_48 ?_
          refine rr_iadd (pc := 49) dX0_addLandings_49 ?_
          refine rr_iast (pc := 50) dX0_addLandings_50 hc.a4 (by omega) (by omega) ?_
          refine rr_iinc (pc := 51) dX0_addLandings_51 rfl (by decide) ?_
          refine rr_goto (pc := 54) (tgt := 20) dX0_addLandings_54 (by decide) ?_
          exact ih (i + 1) _ _ (by omega) (by omega) (hO.up (by omega)) hC9 (fun j hj => by rw [iup_n (by omega)]; exact hA j hj) hL9 (by omega)
  refine rr_iload_n (pc := 0) dX0_addLandings_0 rfl ?_
  refine rr_if_lt (pc := 1) (tgt := 12) dX0_addLandings_1 (by decide) (by unfold zR; omega) (fun h1 => ?_) (fun h1 => ?_)
  · omega
  · refine rr_iload_n (pc := 4) dX0_addLandings_4 rfl ?_
    refine rr_aload_n (pc := 5) dX0_addLandings_5 rfl ?_
    refine rr_getI (pc := 6) (ji := 0) dX0_addLandings_6 fX0_37 hc.k hc.i0 rfl ?_
    rw [r0]
    refine rr_icmp_lt (pc := 9) (tgt := 13) dX0_addLandings_9 (by decide) (by unfold zR; omega) (by unfold zR; omega) (fun h9 => ?_) (fun h9 => ?_)
    · refine rr_aload_n (pc := 13) dX0_addLandings_13 rfl ?_
      refine rr_getR (pc := 14) dX0_addLandings_14 fX0_9 hc.k hc.r8 ?_
      refine rr_iload_n (pc := 17) dX0_addLandings_17 rfl ?_
      refine rr_iald (pc := 18) dX0_addLandings_18 hc.a1 (by omega) (by omega) ?_
      rw [e0]
      refine rr_istore_n (pc := 19) dX0_addLandings_19 (by decide) ?_
      exact loop _ (aF a r.toNat) W a (by omega) (by omega) zOff.rf hR (fun _ _ => rfl) (by unfold aLand; rw [if_neg hr, show (aF a (r.toNat + 1) - aF a r.toNat).toNat = (a (8 + r)).toNat by omega]) (Nat.lt_succ_self _)
    · omega
