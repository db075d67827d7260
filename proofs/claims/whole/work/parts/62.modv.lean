/-- a row of 160 is copied: from k0, place f, to k1, place t -/
def zC160 (W : zWd) (k1 k0 : Nat) (t f n : Int) : zWd := fun k j => if k = k1 ∧ t ≤ j ∧ j < t + n then W k0 (f + (j - t)) else W k j
theorem zC160_o {W : zWd} {k1 k0 k : Nat} {t f n : Int} (h : k ≠ k1) : zC160 W k1 k0 t f n k = W k := by
  funext j; unfold zC160; rw [if_neg (fun z => h z.1)]
theorem zC160_0 {W : zWd} {k1 k0 : Nat} {t f : Int} : zC160 W k1 k0 t f 0 = W := by
  funext k j; unfold zC160; rw [if_neg (by omega)]
theorem zC160_s {W : zWd} {k1 k0 : Nat} {t f n : Int} (h : 0 ≤ n) : zup (zC160 W k1 k0 t f n) k1 (t + n) (W k0 (f + n)) = zC160 W k1 k0 t f (n + 1) := by
  funext k j
  unfold zup zC160
  by_cases q : k = k1
  · rw [if_pos q]
    by_cases z : j = t + n
    · rw [if_pos z, if_pos ⟨q, by omega, by omega⟩, z, show t + n - t = n by omega]
    · rw [if_neg z]
      by_cases y : t ≤ j ∧ j < t + n
      · rw [if_pos ⟨q, y⟩, if_pos ⟨q, by omega, by omega⟩]
      · rw [if_neg (fun x => y x.2), if_neg (fun x => y ⟨x.2.1, by omega⟩)]
  · rw [if_neg q, if_neg (fun x => q x.1), if_neg (fun x => q x.1)]
theorem dX7_copies_0 : decode cX7_copies 0 = .ok (.iconst 0, 1) := by decide +kernel
theorem dX7_copies_1 : decode cX7_copies 1 = .ok (.istore 4, 2) := by decide +kernel
theorem dX7_copies_3 : decode cX7_copies 3 = .ok (.iload 4, 2) := by decide +kernel
theorem dX7_copies_5 : decode cX7_copies 5 = .ok (.sipush 160, 3) := by decide +kernel
theorem dX7_copies_8 : decode cX7_copies 8 = .ok (.if_icmp .ge 21, 3) := by decide +kernel
theorem dX7_copies_11 : decode cX7_copies 11 = .ok (.aload_n 0, 1) := by decide +kernel
theorem dX7_copies_12 : decode cX7_copies 12 = .ok (.iload_n 1, 1) := by decide +kernel
theorem dX7_copies_13 : decode cX7_copies 13 = .ok (.iload 4, 2) := by decide +kernel
theorem dX7_copies_15 : decode cX7_copies 15 = .ok (.iadd, 1) := by decide +kernel
theorem dX7_copies_16 : decode cX7_copies 16 = .ok (.aload_n 2, 1) := by decide +kernel
theorem dX7_copies_17 : decode cX7_copies 17 = .ok (.iload_n 3, 1) := by decide +kernel
theorem dX7_copies_18 : decode cX7_copies 18 = .ok (.iload 4, 2) := by decide +kernel
theorem dX7_copies_20 : decode cX7_copies 20 = .ok (.iadd, 1) := by decide +kernel
theorem dX7_copies_21 : decode cX7_copies 21 = .ok (.iaload, 1) := by decide +kernel
theorem dX7_copies_22 : decode cX7_copies 22 = .ok (.iastore, 1) := by decide +kernel
theorem dX7_copies_23 : decode cX7_copies 23 = .ok (.iinc 4 1, 3) := by decide +kernel
theorem dX7_copies_26 : decode cX7_copies 26 = .ok (.goto (-23), 3) := by decide +kernel
theorem dX7_copies_29 : decode cX7_copies 29 = .ok (.return_, 1) := by decide +kernel
theorem eX7_copies {W : zWd} {k1 k0 n1 n0 : Nat} {t f : Int}  {Q : Option Value → zWd → Prop} {X : zX} (hk1 : zk k1 = (10, n1)) (hk0 : zk k0 = (10, n0)) (hne : k0 ≠ k1) (ht0 : 0 ≤ t) (ht1 : t + 160 ≤ n1) (hf0 : 0 ≤ f) (hf1 : f + 160 ≤ n0) (hq : Q none (zC160 W k1 k0 t f 160)) : Ev MX7_copies 0 0 W [.ref k1, zI t, .ref k0, zI f] Q X := by
  refine ev_of (ls := [.ref k1, zI t, .ref k0, zI f, .null]) (by decide) rfl (fun _ => rfl) (fun _ => Nat.le_of_ble_eq_true rfl) (Or.inl rfl) ?_
  have loop : ∀ (n : Nat) (i : Int), 0 ≤ i → i ≤ 160 → (160 - i).toNat < n → RR MX7_copies 0 0 (zC160 W k1 k0 t f i) 3 [.ref k1, zI t, .ref k0, zI f, zI i] [] (zEnd MX7_copies Q X) X := by
    intro n
    induction n with
    | zero => intro i _ _ hm9; omega
    | succ n ih =>
      intro i h1 h2 hm9
      refine rr_iload (pc := 3) dX7_copies_3 rfl ?_
      refine rr_sipush (n := (160)) dX7_copies_5 ?_
      refine rr_icmp_ge (pc := 8) (tgt := 29) dX7_copies_8 (by decide) (by unfold zR; omega) (by unfold zR; omega) (fun h8 => ?_) (fun h8 => ?_)
      · exact rr_retv (pc := 29) dX7_copies_29 rfl rfl ((by rw [← show i = 160 by omega] at hq; exact hq))
      · refine rr_aload_n (pc := 11) dX7_copies_11 rfl ?_
        refine rr_iload_n (pc := 12) dX7_copies_12 rfl ?_
        refine rr_iload (pc := 13) dX7_copies_13 rfl ?_
        refine rr_iadd (pc := 15) dX7_copies_15 ?_
        refine rr_aload_n (pc := 16) dX7_copies_16 rfl ?_
        refine rr_iload_n (pc := 17) dX7_copies_17 rfl ?_
        refine rr_iload (pc := 18) dX7_copies_18 rfl ?_
        refine rr_iadd (pc := 20) dX7_copies_20 ?_
        refine rr_iald (pc := 21) dX7_copies_21 hk0 (by omega) (by omega) ?_
        rw [zC160_o hne]
        refine rr_iast (pc := 22) dX7_copies_22 hk1 (by omega) (by omega) ?_
        rw [zC160_s h1]
        refine rr_iinc (pc := 23) dX7_copies_23 rfl (by decide) ?_
        refine rr_goto (pc := 26) (tgt := 3) dX7_copies_26 (by decide) ?_
        exact ih (i + 1) (by omega) (by omega) (by omega)
  refine rr_iconst (n := 0) dX7_copies_0 ?_
  refine rr_istore (pc := 1) dX7_copies_1 (by decide) ?_
  refine rr_eqW (zC160_0 (W := W) (k1 := k1) (k0 := k0) (t := t) (f := f)).symm ?_
  exact loop _ 0 (by omega) (by omega) (Nat.lt_succ_self _)
theorem dX7_thrown_0 : decode cX7_thrown 0 = .ok (.aload_n 0, 1) := by decide +kernel
theorem dX7_thrown_1 : decode cX7_thrown 1 = .ok (.getfield 59, 3) := by decide +kernel
theorem dX7_thrown_4 : decode cX7_thrown 4 = .ok (.ireturn, 1) := by decide +kernel
theorem eX7_thrown {W : zWd} {Q : Option Value → zWd → Prop} {X : zX} (hq : Q (some (zI (W 116 7))) W) : Ev MX7_thrown 0 0 W [.ref 116] Q X := by
  refine ev_of (ls := [.ref 116]) (by decide) rfl (fun _ => rfl) (fun _ => Nat.le_of_ble_eq_true rfl) (Or.inl rfl) ?_
  refine rr_aload_n (pc := 0) dX7_thrown_0 rfl ?_
  refine rr_getI (pc := 1) (ji := 7) dX7_thrown_1 fX7_59 zk_116 zr_116_7 rfl ?_
  exact rr_reti (pc := 4) dX7_thrown_4 rfl rfl rfl rfl (hq)
