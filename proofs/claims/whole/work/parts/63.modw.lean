/-- the kept rows: K 0 the latest -/
def zKp (W : zWd) (n : Int) (K : Nat → (Int → Int)) : Prop := W 116 6 = n ∧ 0 ≤ n ∧ n ≤ 8 ∧ ∀ j : Nat, (j : Int) < n → ∀ i : Int, 0 ≤ i → i < 160 → W 120 (160 * (n - 1 - j) + i) = K j i
def zOfk (W W' : zWd) : Prop := (∀ k : Nat, k ≠ 116 → k ≠ 120 → W' k = W k) ∧ ∀ j : Int, j ≠ 6 → W' 116 j = W 116 j
theorem zOfk.rf {W : zWd} : zOfk W W := ⟨fun _ _ _ => rfl, fun _ _ => rfl⟩
theorem dX7_keeps_0 : decode cX7_keeps 0 = .ok (.aload_n 0, 1) := by decide +kernel
theorem dX7_keeps_1 : decode cX7_keeps 1 = .ok (.getfield 62, 3) := by decide +kernel
theorem dX7_keeps_4 : decode cX7_keeps 4 = .ok (.bipush 8, 2) := by decide +kernel
theorem dX7_keeps_6 : decode cX7_keeps 6 = .ok (.if_icmp .ne 44, 3) := by decide +kernel
theorem dX7_keeps_9 : decode cX7_keeps 9 = .ok (.iconst 0, 1) := by decide +kernel
theorem dX7_keeps_10 : decode cX7_keeps 10 = .ok (.istore_n 2, 1) := by decide +kernel
theorem dX7_keeps_11 : decode cX7_keeps 11 = .ok (.iload_n 2, 1) := by decide +kernel
theorem dX7_keeps_12 : decode cX7_keeps 12 = .ok (.sipush 1120, 3) := by decide +kernel
theorem dX7_keeps_15 : decode cX7_keeps 15 = .ok (.if_icmp .ge 25, 3) := by decide +kernel
theorem dX7_keeps_18 : decode cX7_keeps 18 = .ok (.aload_n 0, 1) := by decide +kernel
theorem dX7_keeps_19 : decode cX7_keeps 19 = .ok (.getfield 19, 3) := by decide +kernel
theorem dX7_keeps_22 : decode cX7_keeps 22 = .ok (.iload_n 2, 1) := by decide +kernel
theorem dX7_keeps_23 : decode cX7_keeps 23 = .ok (.aload_n 0, 1) := by decide +kernel
theorem dX7_keeps_24 : decode cX7_keeps 24 = .ok (.getfield 19, 3) := by decide +kernel
theorem dX7_keeps_27 : decode cX7_keeps 27 = .ok (.iload_n 2, 1) := by decide +kernel
theorem dX7_keeps_28 : decode cX7_keeps 28 = .ok (.sipush 160, 3) := by decide +kernel
theorem dX7_keeps_31 : decode cX7_keeps 31 = .ok (.iadd, 1) := by decide +kernel
theorem dX7_keeps_32 : decode cX7_keeps 32 = .ok (.iaload, 1) := by decide +kernel
theorem dX7_keeps_33 : decode cX7_keeps 33 = .ok (.iastore, 1) := by decide +kernel
theorem dX7_keeps_34 : decode cX7_keeps 34 = .ok (.iinc 2 1, 3) := by decide +kernel
theorem dX7_keeps_37 : decode cX7_keeps 37 = .ok (.goto (-26), 3) := by decide +kernel
theorem dX7_keeps_40 : decode cX7_keeps 40 = .ok (.aload_n 0, 1) := by decide +kernel
theorem dX7_keeps_41 : decode cX7_keeps 41 = .ok (.dup, 1) := by decide +kernel
theorem dX7_keeps_42 : decode cX7_keeps 42 = .ok (.getfield 62, 3) := by decide +kernel
theorem dX7_keeps_45 : decode cX7_keeps 45 = .ok (.iconst 1, 1) := by decide +kernel
theorem dX7_keeps_46 : decode cX7_keeps 46 = .ok (.isub, 1) := by decide +kernel
theorem dX7_keeps_47 : decode cX7_keeps 47 = .ok (.putfield 62, 3) := by decide +kernel
theorem dX7_keeps_50 : decode cX7_keeps 50 = .ok (.aload_n 0, 1) := by decide +kernel
theorem dX7_keeps_51 : decode cX7_keeps 51 = .ok (.getfield 19, 3) := by decide +kernel
theorem dX7_keeps_54 : decode cX7_keeps 54 = .ok (.sipush 160, 3) := by decide +kernel
theorem dX7_keeps_57 : decode cX7_keeps 57 = .ok (.aload_n 0, 1) := by decide +kernel
theorem dX7_keeps_58 : decode cX7_keeps 58 = .ok (.getfield 62, 3) := by decide +kernel
theorem dX7_keeps_61 : decode cX7_keeps 61 = .ok (.imul, 1) := by decide +kernel
theorem dX7_keeps_62 : decode cX7_keeps 62 = .ok (.aload_n 1, 1) := by decide +kernel
theorem dX7_keeps_63 : decode cX7_keeps 63 = .ok (.iconst 0, 1) := by decide +kernel
theorem dX7_keeps_64 : decode cX7_keeps 64 = .ok (.invokestatic 65, 3) := by decide +kernel
theorem dX7_keeps_67 : decode cX7_keeps 67 = .ok (.aload_n 0, 1) := by decide +kernel
theorem dX7_keeps_68 : decode cX7_keeps 68 = .ok (.dup, 1) := by decide +kernel
theorem dX7_keeps_69 : decode cX7_keeps 69 = .ok (.getfield 62, 3) := by decide +kernel
theorem dX7_keeps_72 : decode cX7_keeps 72 = .ok (.iconst 1, 1) := by decide +kernel
theorem dX7_keeps_73 : decode cX7_keeps 73 = .ok (.iadd, 1) := by decide +kernel
theorem dX7_keeps_74 : decode cX7_keeps 74 = .ok (.putfield 62, 3) := by decide +kernel
theorem dX7_keeps_77 : decode cX7_keeps 77 = .ok (.return_, 1) := by decide +kernel
theorem eX7_keeps {W : zWd} {k0 n0 : Nat} {n : Int} {K : Nat → (Int → Int)}  {Q : Option Value → zWd → Prop} {X : zX} (hk0 : zk k0 = (10, n0)) (h160 : 160 ≤ n0) (h116 : k0 ≠ 116) (h120 : k0 ≠ 120) (hH : zKp W n K) (hq : ∀ W' : zWd, zOfk W W' → zKp W' (if n + 1 < 8 then n + 1 else 8) (zPush (W k0) K) → Q none W') : Ev MX7_keeps 1 0 W [.ref 116, .ref k0] Q X := by
  refine ev_of (ls := [.ref 116, .ref k0, .null]) (by decide) rfl (fun _ => rfl) (fun _ => Nat.le_of_ble_eq_true rfl) (Or.inl rfl) ?_
  obtain ⟨k6, k7, k8, k9⟩ := hH
  have tailB : ∀ (W2 : zWd) (x2 : Value) (m : Int), zOfk W W2 → W2 116 6 = m → 0 ≤ m → m ≤ 7 → (m = n ∨ (m = 7 ∧ n = 8)) → (∀ j : Nat, (j : Int) < m → ∀ i : Int, 0 ≤ i → i < 160 → W2 120 (160 * (m - 1 - j) + i) = K j i) → RR MX7_keeps 1 0 W2 50 [.ref 116, .ref k0, x2] [] (zEnd MX7_keeps Q X) X := by
    intro W2 x2 m o2 e6 m0 m7 hmn hd
    refine rr_aload_n (pc := 50) dX7_keeps_50 rfl ?_
    refine rr_getR (pc := 51) dX7_keeps_51 fX7_19 zk_116 zr_116_3 ?_
    refine rr_sipush (n := (160)) dX7_keeps_54 ?_
    refine rr_aload_n (pc := 57) dX7_keeps_57 rfl ?_
    refine rr_getI (pc := 58) (ji := 6) dX7_keeps_58 fX7_62 zk_116 zr_116_6 rfl ?_
    rw [e6]
    refine rr_imul (pc := 61) dX7_keeps_61 ?_
    refine rr_aload_n (pc := 62) dX7_keeps_62 rfl ?_
    refine rr_iconst (n := 0) dX7_keeps_63 ?_
    refine rr_sta0 (M' := MX7_copies) (As := [_, _, _, _]) (pc := 64) dX7_keeps_64 lX7_65 kX7_copies sX7_copies (by decide) (by decide) (Nat.le_of_ble_eq_true rfl) rfl (eX7_copies (W := W2) (n1 := 1280) (n0 := n0) zk_120 hk0 h120 (by omega) (by omega) (by omega) (by omega) ?_)
    generalize hW3 : zC160 W2 120 k0 (160 * m) 0 160 = W3
    refine rr_aload_n (pc := 67) dX7_keeps_67 rfl ?_
    refine rr_dup_r (pc := 68) dX7_keeps_68 ?_
    refine rr_getI (pc := 69) (ji := 6) dX7_keeps_69 fX7_62 zk_116 zr_116_6 rfl ?_
    rw [show W3 116 6 = m by rw [← hW3, zC160_o (by decide)]; exact e6]
    refine rr_iconst (n := 1) dX7_keeps_72 ?_
    refine rr_iadd (pc := 73) dX7_keeps_73 ?_
    refine rr_put (pc := 74) (ji := 6) dX7_keeps_74 fX7_62 fp_7_6 zk_116 zr_116_6 rfl ?_
    refine rr_retv (pc := 77) dX7_keeps_77 rfl rfl (hq _ ⟨fun k g1 g2 => by rw [zup_other k g1, ← hW3, zC160_o g2]; exact o2.1 k g1 g2, fun j g => by rw [zup_i g, ← hW3, zC160_o (by decide)]; exact o2.2 j g⟩ ⟨by rw [zup_s]; split <;> omega, by split <;> omega, by split <;> omega, fun j hj i g1 g2 => ?_⟩)
    rw [zup_other 120 (by decide), ← hW3]
    have hm1 : (if n + 1 < 8 then n + 1 else 8) = m + 1 := by split <;> omega
    rw [hm1] at hj ⊢
    unfold zC160
    by_cases z : j = 0
    · subst z
      rw [if_pos ⟨rfl, by omega, by omega⟩, o2.1 k0 h116 h120]
      show W k0 _ = (if (0 : Nat) = 0 then W k0 else K (0 - 1)) i
      rw [if_pos rfl, show (0 : Int) + (160 * (m + 1 - 1 - ((0 : Nat) : Int)) + i - 160 * m) = i by omega]
    · rw [if_neg (by omega)]
      show _ = (if j = 0 then W k0 else K (j - 1)) i
      rw [if_neg z, ← hd (j - 1) (by omega) i g1 g2, show m + 1 - 1 - (j : Int) = m - 1 - ((j - 1 : Nat) : Int) by omega]
  have tail : ∀ (Wi : zWd) (x2 : Value), (∀ k : Nat, k ≠ 120 → Wi k = W k) → (∀ j : Int, 0 ≤ j → j < 1120 → Wi 120 j = W 120 (j + 160)) → n = 8 → RR MX7_keeps 1 0 Wi 40 [.ref 116, .ref k0, x2] [] (zEnd MX7_keeps Q X) X := by
    intro Wi x2 hO hd hn8
    refine rr_aload_n (pc := 40) dX7_keeps_40 rfl ?_
    refine rr_dup_r (pc := 41) dX7_keeps_41 ?_
    refine rr_getI (pc := 42) (ji := 6) dX7_keeps_42 fX7_62 zk_116 zr_116_6 rfl ?_
    rw [hO 116 (by decide), k6]
    refine rr_iconst (n := 1) dX7_keeps_45 ?_
    refine rr_isub (pc := 46) dX7_keeps_46 ?_
    refine rr_put (pc := 47) (ji := 6) dX7_keeps_47 fX7_62 fp_7_6 zk_116 zr_116_6 rfl ?_
    refine tailB _ _ 7 ⟨fun k g1 g2 => by rw [zup_other k g1]; exact hO k g2, fun j g => by rw [zup_i g, hO 116 (by decide)]⟩ (by rw [zup_s]; omega) (by omega) (by omega) (Or.inr ⟨rfl, by omega⟩) (fun j g i g1 g2 => ?_)
    rw [zup_other 120 (by decide), hd (160 * (7 - 1 - (j : Int)) + i) (by omega) (by omega), ← k9 j (by omega) i g1 g2, show 160 * (7 - 1 - (j : Int)) + i + 160 = 160 * (n - 1 - (j : Int)) + i by omega]
  refine rr_aload_n (pc := 0) dX7_keeps_0 rfl ?_
  refine rr_getI (pc := 1) (ji := 6) dX7_keeps_1 fX7_62 zk_116 zr_116_6 rfl ?_
  rw [k6]
  refine rr_bipush (n := (8)) dX7_keeps_4 ?_
  refine rr_icmp_ne (pc := 6) (tgt := 50) dX7_keeps_6 (by decide) (by unfold zR; omega) (by unfold zR; omega) (fun h6 => ?_) (fun h6 => ?_)
  · exact tailB W _ n zOfk.rf k6 k7 (by omega) (Or.inl rfl) k9
  · refine rr_iconst (n := 0) dX7_keeps_9 ?_
    refine rr_istore_n (pc := 10) dX7_keeps_10 (by decide) ?_
    have hn8 : n = 8 := by omega
    have loop : ∀ (n : Nat) (i : Int) (Wi : zWd), 0 ≤ i → i ≤ 1120 → (∀ k : Nat, k ≠ 120 → Wi k = W k) → (∀ j : Int, i ≤ j → Wi 120 j = W 120 j) → (∀ j : Int, 0 ≤ j → j < i → Wi 120 j = W 120 (j + 160)) → (1120 - i).toNat < n → RR MX7_keeps 1 0 Wi 11 [.ref 116, .ref k0, zI i] [] (zEnd MX7_keeps Q X) X := by
      intro n
      induction n with
      | zero => intro i Wi _ _ _ _ _ hm9; omega
      | succ n ih =>
        intro i Wi h1 h2 hO hr hd hm9
        refine rr_iload_n (pc := 11) dX7_keeps_11 rfl ?_
        refine rr_sipush (n := (1120)) dX7_keeps_12 ?_
        refine rr_icmp_ge (pc := 15) (tgt := 40) dX7_keeps_15 (by decide) (by unfold zR; omega) (by unfold zR; omega) (fun h15 => ?_) (fun h15 => ?_)
        · exact tail Wi _ hO (fun j g1 g2 => hd j g1 (by omega)) hn8
        · refine rr_aload_n (pc := 18) dX7_keeps_18 rfl ?_
          refine rr_getR (pc := 19) dX7_keeps_19 fX7_19 zk_116 zr_116_3 ?_
          refine rr_iload_n (pc := 22) dX7_keeps_22 rfl ?_
          refine rr_aload_n (pc := 23) dX7_keeps_23 rfl ?_
          refine rr_getR (pc := 24) dX7_keeps_24 fX7_19 zk_116 zr_116_3 ?_
          refine rr_iload_n (pc := 27) dX7_keeps_27 rfl ?_
          refine rr_sipush (n := (160)) dX7_keeps_28 ?_
          refine rr_iadd (pc := 31) dX7_keeps_31 ?_
          refine rr_iald (pc := 32) dX7_keeps_32 zk_120 (by omega) (by omega) ?_
          rw [hr (i + 160) (by omega)]
          refine rr_iast (pc := 33) dX7_keeps_33 zk_120 (by omega) (by omega) ?_
          refine rr_iinc (pc := 34) dX7_keeps_34 rfl (by decide) ?_
          refine rr_goto (pc := 37) (tgt := 11) dX7_keeps_37 (by decide) ?_
          exact ih (i + 1) _ (by omega) (by omega) (fun k g => by rw [zup_other k g]; exact hO k g) (fun j g => by rw [zup_i (by omega)]; exact hr j (by omega)) (fun j g1 g2 => by
            by_cases z : j = i
            · subst z; exact zup_s
            · rw [zup_i z]; exact hd j g1 (by omega)) (by omega)
    exact loop _ 0 W (by omega) (by omega) (fun _ _ => rfl) (fun _ _ => rfl) (fun j g1 g2 => by omega) (Nat.lt_succ_self _)
