/-- what undo leaves in the row -/
def zOfu (W W' : zWd) : Prop := (∀ k : Nat, k ≠ 116 → k ≠ 117 → W' k = W k) ∧ ∀ j : Int, j ≠ 6 → j ≠ 7 → W' 116 j = W 116 j
theorem dX7_undo_0 : decode cX7_undo 0 = .ok (.aload_n 0, 1) := by decide +kernel
theorem dX7_undo_1 : decode cX7_undo 1 = .ok (.aload_n 0, 1) := by decide +kernel
theorem dX7_undo_2 : decode cX7_undo 2 = .ok (.getfield 62, 3) := by decide +kernel
theorem dX7_undo_5 : decode cX7_undo 5 = .ok (.ifCond .ne 7, 3) := by decide +kernel
theorem dX7_undo_8 : decode cX7_undo 8 = .ok (.iconst 1, 1) := by decide +kernel
theorem dX7_undo_9 : decode cX7_undo 9 = .ok (.goto 4, 3) := by decide +kernel
theorem dX7_undo_12 : decode cX7_undo 12 = .ok (.iconst 0, 1) := by decide +kernel
theorem dX7_undo_13 : decode cX7_undo 13 = .ok (.putfield 59, 3) := by decide +kernel
theorem dX7_undo_16 : decode cX7_undo 16 = .ok (.aload_n 0, 1) := by decide +kernel
theorem dX7_undo_17 : decode cX7_undo 17 = .ok (.getfield 59, 3) := by decide +kernel
theorem dX7_undo_20 : decode cX7_undo 20 = .ok (.ifCond .le 5, 3) := by decide +kernel
theorem dX7_undo_23 : decode cX7_undo 23 = .ok (.iconst 0, 1) := by decide +kernel
theorem dX7_undo_24 : decode cX7_undo 24 = .ok (.ireturn, 1) := by decide +kernel
theorem dX7_undo_25 : decode cX7_undo 25 = .ok (.aload_n 0, 1) := by decide +kernel
theorem dX7_undo_26 : decode cX7_undo 26 = .ok (.dup, 1) := by decide +kernel
theorem dX7_undo_27 : decode cX7_undo 27 = .ok (.getfield 62, 3) := by decide +kernel
theorem dX7_undo_30 : decode cX7_undo 30 = .ok (.iconst 1, 1) := by decide +kernel
theorem dX7_undo_31 : decode cX7_undo 31 = .ok (.isub, 1) := by decide +kernel
theorem dX7_undo_32 : decode cX7_undo 32 = .ok (.putfield 62, 3) := by decide +kernel
theorem dX7_undo_35 : decode cX7_undo 35 = .ok (.aload_n 0, 1) := by decide +kernel
theorem dX7_undo_36 : decode cX7_undo 36 = .ok (.getfield 7, 3) := by decide +kernel
theorem dX7_undo_39 : decode cX7_undo 39 = .ok (.iconst 0, 1) := by decide +kernel
theorem dX7_undo_40 : decode cX7_undo 40 = .ok (.aload_n 0, 1) := by decide +kernel
theorem dX7_undo_41 : decode cX7_undo 41 = .ok (.getfield 19, 3) := by decide +kernel
theorem dX7_undo_44 : decode cX7_undo 44 = .ok (.sipush 160, 3) := by decide +kernel
theorem dX7_undo_47 : decode cX7_undo 47 = .ok (.aload_n 0, 1) := by decide +kernel
theorem dX7_undo_48 : decode cX7_undo 48 = .ok (.getfield 62, 3) := by decide +kernel
theorem dX7_undo_51 : decode cX7_undo 51 = .ok (.imul, 1) := by decide +kernel
theorem dX7_undo_52 : decode cX7_undo 52 = .ok (.invokestatic 65, 3) := by decide +kernel
theorem dX7_undo_55 : decode cX7_undo 55 = .ok (.aload_n 0, 1) := by decide +kernel
theorem dX7_undo_56 : decode cX7_undo 56 = .ok (.getfield 62, 3) := by decide +kernel
theorem dX7_undo_59 : decode cX7_undo 59 = .ok (.ireturn, 1) := by decide +kernel
theorem eX7_undo {W : zWd} {n : Int} {K : Nat → (Int → Int)}  {Q : Option Value → zWd → Prop} {X : zX} (hH : zKp W n K) (hq0 : n = 0 → ∀ W' : zWd, zOfu W W' → W' 116 7 = 1 → W' 116 6 = n → W' 117 = W 117 → Q (some (zI 0)) W') (hq : 0 < n → ∀ W' : zWd, zOfu W W' → W' 116 7 = 0 → zKp W' (n - 1) (fun j => K (j + 1)) → (∀ i : Int, 0 ≤ i → i < 160 → W' 117 i = K 0 i) → Q (some (zI (n - 1))) W') : Ev MX7_undo 1 0 W [.ref 116] Q X := by
  refine ev_of (ls := [.ref 116]) (by decide) rfl (fun _ => rfl) (fun _ => Nat.le_of_ble_eq_true rfl) (Or.inl rfl) ?_
  obtain ⟨k6, k7, k8, k9⟩ := hH
  refine rr_aload_n (pc := 0) dX7_undo_0 rfl ?_
  refine rr_aload_n (pc := 1) dX7_undo_1 rfl ?_
  refine rr_getI (pc := 2) (ji := 6) dX7_undo_2 fX7_62 zk_116 zr_116_6 rfl ?_
  rw [k6]
  refine rr_if_ne (pc := 5) (tgt := 12) dX7_undo_5 (by decide) (by unfold zR; omega) (fun h5 => ?_) (fun h5 => ?_)
  · refine rr_iconst (n := 0) dX7_undo_12 ?_
    refine rr_put (pc := 13) (ji := 7) dX7_undo_13 fX7_59 fp_7_7 zk_116 zr_116_7 rfl ?_
    refine rr_aload_n (pc := 16) dX7_undo_16 rfl ?_
    refine rr_getI (pc := 17) (ji := 7) dX7_undo_17 fX7_59 zk_116 zr_116_7 rfl ?_
    rw [zup_s]
    refine rr_if_le (pc := 20) (tgt := 25) dX7_undo_20 (by decide) (by unfold zR; omega) (fun h20 => ?_) (fun h20 => ?_)
    · refine rr_aload_n (pc := 25) dX7_undo_25 rfl ?_
      refine rr_dup_r (pc := 26) dX7_undo_26 ?_
      refine rr_getI (pc := 27) (ji := 6) dX7_undo_27 fX7_62 zk_116 zr_116_6 rfl ?_
      rw [zup_i (show (6 : Int) ≠ 7 by decide), k6]
      refine rr_iconst (n := 1) dX7_undo_30 ?_
      refine rr_isub (pc := 31) dX7_undo_31 ?_
      refine rr_put (pc := 32) (ji := 6) dX7_undo_32 fX7_62 fp_7_6 zk_116 zr_116_6 rfl ?_
      have o2 : ∀ k : Nat, k ≠ 116 → zup (zup W 116 7 0) 116 6 (n - 1) k = W k := fun k g => by rw [zup_other k g, zup_other k g]
      have e6 : zup (zup W 116 7 0) 116 6 (n - 1) 116 6 = n - 1 := zup_s
      have e7 : zup (zup W 116 7 0) 116 6 (n - 1) 116 7 = 0 := by rw [zup_i (by decide), zup_s]
      have ej : ∀ j : Int, j ≠ 6 → j ≠ 7 → zup (zup W 116 7 0) 116 6 (n - 1) 116 j = W 116 j := fun j g1 g2 => by rw [zup_i g1, zup_i g2]
      generalize zup (zup W 116 7 0) 116 6 (n - 1) = W2 at o2 e6 e7 ej ⊢
      refine rr_aload_n (pc := 35) dX7_undo_35 rfl ?_
      refine rr_getR (pc := 36) dX7_undo_36 fX7_7 zk_116 zr_116_0 ?_
      refine rr_iconst (n := 0) dX7_undo_39 ?_
      refine rr_aload_n (pc := 40) dX7_undo_40 rfl ?_
      refine rr_getR (pc := 41) dX7_undo_41 fX7_19 zk_116 zr_116_3 ?_
      refine rr_sipush (n := (160)) dX7_undo_44 ?_
      refine rr_aload_n (pc := 47) dX7_undo_47 rfl ?_
      refine rr_getI (pc := 48) (ji := 6) dX7_undo_48 fX7_62 zk_116 zr_116_6 rfl ?_
      rw [e6]
      refine rr_imul (pc := 51) dX7_undo_51 ?_
      refine rr_sta0 (M' := MX7_copies) (As := [_, _, _, _]) (pc := 52) dX7_undo_52 lX7_65 kX7_copies sX7_copies (by decide) (by decide) (Nat.le_of_ble_eq_true rfl) rfl (eX7_copies (W := W2) (n1 := 160) (n0 := 1280) zk_117 zk_120 (by decide) (by omega) (by omega) (by omega) (by omega) ?_)
      refine rr_aload_n (pc := 55) dX7_undo_55 rfl ?_
      refine rr_getI (pc := 56) (ji := 6) dX7_undo_56 fX7_62 zk_116 zr_116_6 rfl ?_
      rw [show zC160 W2 117 120 0 (160 * (n - 1)) 160 116 6 = n - 1 by rw [zC160_o (by decide)]; exact e6]
      exact rr_reti (pc := 59) dX7_undo_59 rfl rfl rfl rfl (hq (by omega) _ ⟨fun k g1 g2 => by rw [zC160_o g2]; exact o2 k g1, fun j g1 g2 => by rw [zC160_o (by decide)]; exact ej j g1 g2⟩ (by rw [zC160_o (by decide)]; exact e7) ⟨by rw [zC160_o (by decide)]; exact e6, by omega, by omega, fun j hj i g1 g2 => by rw [zC160_o (by decide), o2 120 (by decide)]; exact (show n - 1 - 1 - (j : Int) = n - 1 - ((j + 1 : Nat) : Int) by omega) ▸ k9 (j + 1) (by omega) i g1 g2⟩ (fun i g1 g2 => by unfold zC160; rw [if_pos ⟨rfl, by omega, by omega⟩, o2 120 (by decide), ← k9 0 (by omega) i g1 g2]; congr 1; omega))
    · omega
  · refine rr_iconst (n := 1) dX7_undo_8 ?_
    refine rr_goto (pc := 9) (tgt := 13) dX7_undo_9 (by decide) ?_
    refine rr_put (pc := 13) (ji := 7) dX7_undo_13 fX7_59 fp_7_7 zk_116 zr_116_7 rfl ?_
    refine rr_aload_n (pc := 16) dX7_undo_16 rfl ?_
    refine rr_getI (pc := 17) (ji := 7) dX7_undo_17 fX7_59 zk_116 zr_116_7 rfl ?_
    rw [zup_s]
    refine rr_if_le (pc := 20) (tgt := 25) dX7_undo_20 (by decide) (by unfold zR; omega) (fun h20 => ?_) (fun h20 => ?_)
    · omega
    · refine rr_iconst (n := 0) dX7_undo_23 ?_
      exact rr_reti (pc := 24) dX7_undo_24 rfl rfl rfl rfl (hq0 (by omega) _ ⟨fun k g1 _ => zup_other k g1, fun j _ g => zup_i g⟩ zup_s ((zup_i (by decide)).trans k6) (zup_other 117 (by decide)))
