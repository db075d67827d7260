theorem zct_of {i : Nat} (h : i < 8) : zCt (16 + 8 * i) := ⟨2 + i, by omega, by omega⟩
theorem zpr_h : ∀ i : Nat, i < 8 → zpr (16 + 8 * i) = (29, i) := by decide +kernel
theorem fz_h : ∀ i : Nat, i < 8 → ∀ (ad : Nat → Nat) (W : zWd), fsX0 = (List.range (znf 0)).map (zfw ad (znew W (zov (30 + 8 * i))) (zov (30 + 8 * i))) := by
  intro i hi ad W
  rcases (show i = 0 ∨ i = 1 ∨ i = 2 ∨ i = 3 ∨ i = 4 ∨ i = 5 ∨ i = 6 ∨ i = 7 by omega) with rfl | rfl | rfl | rfl | rfl | rfl | rfl | rfl <;> rfl
theorem zr_109c (i : Nat) : zr 109 i = some (16 + 8 * i) := rfl
theorem dX2_init_15 : decode cX2_init 15 = .ok (.iload_n 1, 1) := by decide +kernel
theorem dX2_init_16 : decode cX2_init 16 = .ok (.bipush 8, 2) := by decide +kernel
theorem dX2_init_18 : decode cX2_init 18 = .ok (.if_icmp .ge 22, 3) := by decide +kernel
theorem dX2_init_40 : decode cX2_init 40 = .ok (.return_, 1) := by decide +kernel
theorem dX2_init_21 : decode cX2_init 21 = .ok (.aload_n 0, 1) := by decide +kernel
theorem dX2_init_22 : decode cX2_init 22 = .ok (.getfield 11, 3) := by decide +kernel
theorem dX2_init_25 : decode cX2_init 25 = .ok (.iload_n 1, 1) := by decide +kernel
theorem dX2_init_26 : decode cX2_init 26 = .ok (.new 9, 3) := by decide +kernel
theorem dX2_init_29 : decode cX2_init 29 = .ok (.dup, 1) := by decide +kernel
theorem dX2_init_30 : decode cX2_init 30 = .ok (.invokespecial 17, 3) := by decide +kernel
theorem dX2_init_33 : decode cX2_init 33 = .ok (.aastore, 1) := by decide +kernel
theorem dX2_init_34 : decode cX2_init 34 = .ok (.iinc 1 1, 3) := by decide +kernel
theorem dX2_init_37 : decode cX2_init 37 = .ok (.goto (-22), 3) := by decide +kernel
theorem dX2_init_0 : decode cX2_init 0 = .ok (.aload_n 0, 1) := by decide +kernel
theorem dX2_init_1 : decode cX2_init 1 = .ok (.invokespecial 3, 3) := by decide +kernel
theorem dX2_init_4 : decode cX2_init 4 = .ok (.aload_n 0, 1) := by decide +kernel
theorem dX2_init_5 : decode cX2_init 5 = .ok (.bipush 8, 2) := by decide +kernel
theorem dX2_init_7 : decode cX2_init 7 = .ok (.anewarray 9, 3) := by decide +kernel
theorem dX2_init_10 : decode cX2_init 10 = .ok (.putfield 11, 3) := by decide +kernel
theorem dX2_init_13 : decode cX2_init 13 = .ok (.iconst 0, 1) := by decide +kernel
theorem dX2_init_14 : decode cX2_init 14 = .ok (.istore_n 1, 1) := by decide +kernel
theorem nX2_init {W : zWd} {Q : zWd → Prop} (h0 : ∀ j : Int, W 108 j = 0) (hq : ∀ W' : zWd, (∀ k : Nat, k ≠ 108 → k ≠ 109 → (k < 16 ∨ 80 ≤ k) → W' k = W k) → zBh W' → Q W') : EvN MX2_init 3 65 (29) W [.ref 108] Q := by
  refine ev_ofL (ls := [.ref 108, .null]) (by decide) rfl (fun _ => rfl) (fun _ => Nat.le_of_ble_eq_true rfl) ?_
  refine rl_aload_n (pc := 0) dX2_init_0 rfl ?_
  refine rl_obj (pc := 1) dX2_init_1 (zWs_in 308 (by decide +kernel) rfl) (zWs_in 156 (by decide +kernel) rfl) (zWs_in 157 (by decide +kernel) rfl) (by decide) (by decide) ?_
  refine rl_aload_n (pc := 4) dX2_init_4 rfl ?_
  refine rl_bipush (n := (8)) dX2_init_5 ?_
  refine rl_newq (pc := 7) (n := 8) dX2_init_7 (zWs_in 309 (by decide +kernel) rfl) rfl (by omega) (Or.inl (zhc (k := 109) (n0 := 28) (c := 108) (j := 0) rfl rfl rfl (h0 _))) (zLv.r (j := 28) (by omega) rfl (zLv.n (zLv.nil))) (zLv.r (j := 28) (by omega) rfl (zLv.nil)) (by decide) ?_
  rw [show zov 29 = 109 from rfl]
  refine rl_nm (w' := 64) (N' := 30) rfl rfl ?_
  refine rl_putF (pc := 10) (j := 0) (n := 28) (x := 1) dX2_init_10 (C := RX2) (T := TX2) (ci := 2) rfl (by decide) (by decide) uwX2 tyX2_ok nmX2 (zWs_in 312 (by decide +kernel) rfl) rfl rfl rfl (ty := .array (.object "HopscotchCourt$Court")) (by decide +kernel) (fun _ => rfl) (fun _ => rfl) rfl (by omega) (by omega) rfl (zfw_r rfl) ?_
  refine rl_iconst (n := 0) dX2_init_13 ?_
  refine rl_istore_n (pc := 14) dX2_init_14 (by decide) ?_
  have loop : ∀ (n i : Nat) (Wi : zWd), i ≤ 8 → (∀ k : Nat, k ≠ 108 → k ≠ 109 → (k < 16 ∨ 16 + 8 * i ≤ k) → Wi k = W k) → (Wi 108 0 = 1 ∧ Wi 108 1 = 0 ∧ Wi 108 2 = 0) → (∀ j : Nat, j < i → Wi 109 j = 1) → (∀ j : Nat, i ≤ j → Wi 109 j = 0) → (∀ j : Nat, j < i → zC0 Wi (16 + 8 * j)) → 8 - i < n → RN MX2_init 3 (8 * (8 - i)) (30 + 8 * i) Wi 15 [.ref 108, zI i] [] (zEndL MX2_init (29 + 65) Q) := by
    intro n
    induction n with
    | zero => intro i Wi _ _ _ _ _ _ hm9; omega
    | succ n ih =>
      intro i Wi hi8 hA hB hC hZ hD hm9
      refine rl_iload_n (pc := 15) dX2_init_15 rfl ?_
      refine rl_bipush (n := (8)) dX2_init_16 ?_
      refine rl_icmp_ge (pc := 18) (tgt := 40) dX2_init_18 (by decide) (by unfold zR; omega) (by unfold zR; omega)  (fun h18 => ?_) (fun h18 => ?_)
      · have e8 : i = 8 := by omega
        subst e8
        exact rl_ret (pc := 40) dX2_init_40 rfl (hq Wi (fun k g1 g2 g3 => hA k g1 g2 g3) ⟨hB, fun j g0 g1 => by have h9 := hC j.toNat (by omega); rw [Int.toNat_of_nonneg g0] at h9; exact h9, fun j hj => hD j hj⟩)
      · have hi : i < 8 := by omega
        refine rl_aload_n (pc := 21) dX2_init_21 rfl ?_
        refine rl_getR (pc := 22) (n := 28) dX2_init_22 fX2_11 rfl (by omega) rfl rfl (zset1 hB.1) ?_
        refine rl_iload_n (pc := 25) dX2_init_25 rfl ?_
        refine rl_nm (w' := 8 * (8 - (i + 1)) + 7 + 1) (N' := 30 + 8 * i) (by omega) rfl ?_
        refine rl_new (pc := 26) (ci := 0) (C := RX0) (T := TX0) (fs := fsX0) dX2_init_26 rfl (by decide) uwX0 tyX0_ok (zWs_in 309 (by decide +kernel) rfl) (zWs_in 159 (by decide +kernel) rfl) (zWs_in 130 (by decide +kernel) rfl) fsX0_ok (by rw [(zcn_of i hi).o0]; exact (zct_of hi).k) (fz_h i hi) (by decide) (by omega) (Or.inl (zhc (k := 16 + 8 * i) (n0 := 29) (c := 109) (j := i) (zcn_of i hi).o0 (zpr_h i hi) rfl (hZ i (Nat.le_refl _)))) (zLv.r (j := 28) (by omega) rfl (zLv.i (zLv.nil))) (zLv.i (zLv.r (j := 29) (by omega) rfl (zLv.nil))) ?_
        rw [(zcn_of i hi).o0]
        refine rl_dup_r (pc := 29) dX2_init_29 ?_
        refine rl_ctorN (host := "HopscotchCourt") (M' := MX0_init) (d' := 2) (w' := 7) (k := (16 + 8 * i)) (As := []) (pc := 30) dX2_init_30 (zNst_in 311 (by decide +kernel) rfl) kX0_init (zWs_in 161 (by decide +kernel) rfl) rfl rfl (by decide) (by omega) (by decide) (Nat.le_of_ble_eq_true rfl) rfl (zLv.r (j := 28) (by omega) rfl (zLv.i (zLv.nil))) (zLv.r (j := (30 + 8 * i)) (by omega) (zcn_of i hi).o0 (zLv.i (zLv.r (j := 29) (by omega) rfl (zLv.nil)))) (nX0_init (zct_of hi) (zcn_of i hi) (fun j => znew_s) (fun W1 o1 z1 => ?_))
        refine rl_nm (w' := 8 * (8 - (i + 1))) (N' := 30 + 8 * (i + 1)) (by omega) (by omega) ?_
        refine rl_aast (pc := 33) (ix := 29) (kc := (30 + 8 * i)) dX2_init_33 rfl (by omega) (by omega) rfl (by omega) (by omega) (zct_of hi).k (by omega) (zcn_of i hi).o0 (by rw [show (i : Int).toNat = i by omega]; exact zr_109c i) ?_
        refine rl_iinc (pc := 34) dX2_init_34 rfl (by decide) ?_
        refine rl_goto (pc := 37) (tgt := 15) dX2_init_37 (by decide) ?_
        exact ih (i + 1) (zup W1 109 i 1) (by omega) (fun k g1 g2 g3 => by rw [zup_other k g2, o1 k (by omega), znew_o (by omega)]; exact hA k g1 g2 (by omega)) (by rw [show zup W1 109 (i : Int) 1 108 = Wi 108 by rw [zup_other 108 (by decide), o1 108 (by omega), znew_o (by omega)]]; exact hB) (fun j hj => by
          by_cases e : j = i
          · rw [e]; exact zup_s
          · rw [zup_i (by omega), o1 109 (by omega), znew_o (by omega)]; exact hC j (by omega)) (fun j hj => by rw [zup_i (by omega), o1 109 (by omega), znew_o (by omega)]; exact hZ j (by omega)) (fun j hj => by
          by_cases e : j = i
          · rw [e]; exact z1.cg (fun k g1 g2 => zup_other k (by omega))
          · exact (hD j (by omega)).cg (fun k g1 g2 => by rw [zup_other k (by omega), o1 k (by omega), znew_o (by omega)])) (by omega)
  exact loop 9 0 _ (by omega) (fun k g1 g2 _ => by rw [zup_other k g1, znew_o g2]) ⟨zup_s, (zup_i (by decide)).trans ((znew_k (by decide)).trans (h0 _)), (zup_i (by decide)).trans ((znew_k (by decide)).trans (h0 _))⟩ (fun j hj => by omega) (fun j _ => (zup_k (by decide)).trans znew_s) (fun j hj => by omega) (by omega)
