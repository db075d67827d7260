/-- the saved rows -/
def zSm (W : zWd) (B : Int → Prop) (S : Int → (Int → Int)) : Prop := ∀ i : Int, 0 ≤ i → i < 2 → (W 122 i = 0 ∧ ¬ B i) ∨ (W 122 i = 1 ∧ B i ∧ ∀ j : Int, 0 ≤ j → j < 160 → W 121 (160 * i + j) = S i j)
def zOfs (W W' : zWd) : Prop := (∀ k : Nat, k ≠ 116 → k ≠ 121 → k ≠ 122 → W' k = W k) ∧ ∀ j : Int, j ≠ 7 → W' 116 j = W 116 j
theorem dX7_save_0 : decode cX7_save 0 = .ok (.aload_n 0, 1) := by decide +kernel
theorem dX7_save_1 : decode cX7_save 1 = .ok (.iload_n 1, 1) := by decide +kernel
theorem dX7_save_2 : decode cX7_save 2 = .ok (.iconst 0, 1) := by decide +kernel
theorem dX7_save_3 : decode cX7_save 3 = .ok (.iconst 1, 1) := by decide +kernel
theorem dX7_save_4 : decode cX7_save 4 = .ok (.invokestatic 69, 3) := by decide +kernel
theorem dX7_save_7 : decode cX7_save 7 = .ok (.ifCond .eq 7, 3) := by decide +kernel
theorem dX7_save_10 : decode cX7_save 10 = .ok (.iconst 0, 1) := by decide +kernel
theorem dX7_save_11 : decode cX7_save 11 = .ok (.goto 4, 3) := by decide +kernel
theorem dX7_save_14 : decode cX7_save 14 = .ok (.iconst 1, 1) := by decide +kernel
theorem dX7_save_15 : decode cX7_save 15 = .ok (.putfield 59, 3) := by decide +kernel
theorem dX7_save_18 : decode cX7_save 18 = .ok (.aload_n 0, 1) := by decide +kernel
theorem dX7_save_19 : decode cX7_save 19 = .ok (.getfield 59, 3) := by decide +kernel
theorem dX7_save_22 : decode cX7_save 22 = .ok (.ifCond .le 4, 3) := by decide +kernel
theorem dX7_save_25 : decode cX7_save 25 = .ok (.return_, 1) := by decide +kernel
theorem dX7_save_26 : decode cX7_save 26 = .ok (.aload_n 0, 1) := by decide +kernel
theorem dX7_save_27 : decode cX7_save 27 = .ok (.getfield 22, 3) := by decide +kernel
theorem dX7_save_30 : decode cX7_save 30 = .ok (.sipush 160, 3) := by decide +kernel
theorem dX7_save_33 : decode cX7_save 33 = .ok (.iload_n 1, 1) := by decide +kernel
theorem dX7_save_34 : decode cX7_save 34 = .ok (.imul, 1) := by decide +kernel
theorem dX7_save_35 : decode cX7_save 35 = .ok (.aload_n 0, 1) := by decide +kernel
theorem dX7_save_36 : decode cX7_save 36 = .ok (.getfield 7, 3) := by decide +kernel
theorem dX7_save_39 : decode cX7_save 39 = .ok (.iconst 0, 1) := by decide +kernel
theorem dX7_save_40 : decode cX7_save 40 = .ok (.invokestatic 65, 3) := by decide +kernel
theorem dX7_save_43 : decode cX7_save 43 = .ok (.aload_n 0, 1) := by decide +kernel
theorem dX7_save_44 : decode cX7_save 44 = .ok (.getfield 25, 3) := by decide +kernel
theorem dX7_save_47 : decode cX7_save 47 = .ok (.iload_n 1, 1) := by decide +kernel
theorem dX7_save_48 : decode cX7_save 48 = .ok (.iconst 1, 1) := by decide +kernel
theorem dX7_save_49 : decode cX7_save 49 = .ok (.bastore, 1) := by decide +kernel
theorem dX7_save_50 : decode cX7_save 50 = .ok (.return_, 1) := by decide +kernel
theorem eX7_save {W : zWd} {s : Int} {B : Int → Prop} {S : Int → (Int → Int)}  {Q : Option Value → zWd → Prop} {X : zX} (hS : zSm W B S) (hz : zR s) (hq1 : ¬ (0 ≤ s ∧ s ≤ 1) → ∀ W' : zWd, zOfs W W' → W' 116 7 = 1 → zSm W' B S → Q none W') (hq : (0 ≤ s ∧ s ≤ 1) → ∀ W' : zWd, zOfs W W' → W' 116 7 = 0 → zSm W' (fun i => i = s ∨ B i) (fun i => if i = s then W 117 else S i) → Q none W') : Ev MX7_save 1 0 W [.ref 116, zI s] Q X := by
  refine ev_of (ls := [.ref 116, zI s]) (by decide) rfl (fun _ => rfl) (fun _ => Nat.le_of_ble_eq_true rfl) (Or.inl rfl) ?_
  refine rr_aload_n (pc := 0) dX7_save_0 rfl ?_
  refine rr_iload_n (pc := 1) dX7_save_1 rfl ?_
  refine rr_iconst (n := 0) dX7_save_2 ?_
  refine rr_iconst (n := 1) dX7_save_3 ?_
  refine rr_sta0 (M' := MX7_isIn) (As := [_, _, _]) (pc := 4) dX7_save_4 lX7_69 kX7_isIn sX7_isIn (by decide) (by decide) (Nat.le_of_ble_eq_true rfl) rfl (eX7_isIn hz (by unfold zR; omega) (by unfold zR; omega) ?_)
  refine rr_if_eq (pc := 7) (tgt := 14) dX7_save_7 (by decide) (by split <;> (unfold zR; omega)) (fun h7 => ?_) (fun h7 => ?_)
  · refine rr_iconst (n := 1) dX7_save_14 ?_
    refine rr_put (pc := 15) (ji := 7) dX7_save_15 fX7_59 fp_7_7 zk_116 zr_116_7 rfl ?_
    refine rr_aload_n (pc := 18) dX7_save_18 rfl ?_
    refine rr_getI (pc := 19) (ji := 7) dX7_save_19 fX7_59 zk_116 zr_116_7 rfl ?_
    rw [zup_s]
    refine rr_if_le (pc := 22) (tgt := 26) dX7_save_22 (by decide) (by unfold zR; omega) (fun h22 => ?_) (fun h22 => ?_)
    · omega
    · exact rr_retv (pc := 25) dX7_save_25 rfl rfl (hq1 (z_i10 h7) _ ⟨fun k g1 _ _ => zup_other k g1, fun j g => zup_i g⟩ zup_s (fun i g1 g2 => by rw [zup_other 122 (by decide), zup_other 121 (by decide)]; exact hS i g1 g2))
  · refine rr_iconst (n := 0) dX7_save_10 ?_
    refine rr_goto (pc := 11) (tgt := 15) dX7_save_11 (by decide) ?_
    refine rr_put (pc := 15) (ji := 7) dX7_save_15 fX7_59 fp_7_7 zk_116 zr_116_7 rfl ?_
    refine rr_aload_n (pc := 18) dX7_save_18 rfl ?_
    refine rr_getI (pc := 19) (ji := 7) dX7_save_19 fX7_59 zk_116 zr_116_7 rfl ?_
    rw [zup_s]
    refine rr_if_le (pc := 22) (tgt := 26) dX7_save_22 (by decide) (by unfold zR; omega) (fun h22 => ?_) (fun h22 => ?_)
    · have hin := z_i10n h7
      have o1 : ∀ k : Nat, k ≠ 116 → zup W 116 7 0 k = W k := fun k g => zup_other k g
      have e1 : ∀ j : Int, j ≠ 7 → zup W 116 7 0 116 j = W 116 j := fun j g => zup_i g
      have t1 : zup W 116 7 0 116 7 = 0 := zup_s
      generalize zup W 116 7 0 = W1 at o1 e1 t1 ⊢
      refine rr_aload_n (pc := 26) dX7_save_26 rfl ?_
      refine rr_getR (pc := 27) dX7_save_27 fX7_22 zk_116 zr_116_4 ?_
      refine rr_sipush (n := (160)) dX7_save_30 ?_
      refine rr_iload_n (pc := 33) dX7_save_33 rfl ?_
      refine rr_imul (pc := 34) dX7_save_34 ?_
      refine rr_aload_n (pc := 35) dX7_save_35 rfl ?_
      refine rr_getR (pc := 36) dX7_save_36 fX7_7 zk_116 zr_116_0 ?_
      refine rr_iconst (n := 0) dX7_save_39 ?_
      refine rr_sta0 (M' := MX7_copies) (As := [_, _, _, _]) (pc := 40) dX7_save_40 lX7_65 kX7_copies sX7_copies (by decide) (by decide) (Nat.le_of_ble_eq_true rfl) rfl (eX7_copies (W := W1) (n1 := 320) (n0 := 160) zk_121 zk_117 (by decide) (by omega) (by omega) (by omega) (by omega) ?_)
      refine rr_aload_n (pc := 43) dX7_save_43 rfl ?_
      refine rr_getR (pc := 44) dX7_save_44 fX7_25 zk_116 zr_116_5 ?_
      refine rr_iload_n (pc := 47) dX7_save_47 rfl ?_
      refine rr_iconst (n := 1) dX7_save_48 ?_
      refine rr_zast1 (pc := 49) dX7_save_49 zk_122 (by omega) (by omega) ?_
      have hfin : zSm (zup (zC160 W1 121 117 (160 * s) 0 160) 122 s 1) (fun i => i = s ∨ B i) (fun i => if i = s then W 117 else S i) := by
        intro i g1 g2
        by_cases q : i = s
        · subst q
          refine Or.inr ⟨zup_s, Or.inl rfl, fun j j0 j1 => ?_⟩
          show _ = (if i = i then W 117 else S i) j
          rw [if_pos rfl, zup_other 121 (by decide)]
          unfold zC160
          rw [if_pos ⟨rfl, by omega, by omega⟩, o1 117 (by decide)]
          congr 1; omega
        · rw [zup_i q, zC160_o (by decide), o1 122 (by decide)]
          rcases hS i g1 g2 with z | z
          · exact Or.inl ⟨z.1, fun y => y.elim q z.2⟩
          · refine Or.inr ⟨z.1, Or.inr z.2.1, fun j j0 j1 => ?_⟩
            show _ = (if i = s then W 117 else S i) j
            rw [if_neg q, zup_other 121 (by decide)]
            unfold zC160
            rw [if_neg (fun y => q (by omega)), o1 121 (by decide)]
            exact z.2.2 j j0 j1
      exact rr_retv (pc := 50) dX7_save_50 rfl rfl (hq hin _ ⟨fun k g1 g2 g3 => by rw [zup_other k g3, zC160_o g2]; exact o1 k g1, fun j g => by rw [zup_other 116 (by decide), zC160_o (by decide)]; exact e1 j g⟩ (by rw [zup_other 116 (by decide), zC160_o (by decide)]; exact t1) hfin)
    · omega
