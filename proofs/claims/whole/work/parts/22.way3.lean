theorem zHp_L {F : Nat → Int} {L must rc bal : Nat} (m s : Nat) : zHp F L must rc bal m L s = [] := by
  cases m with
  | zero => rfl
  | succ m => unfold zHp; rw [if_pos rfl]
theorem zHp_s {F : Nat → Int} {L must rc bal k s m : Nat} (h : k < L) : zHp F L must rc bal (m + 1) k s = zNx F L must rc bal k s :: zHp F L must rc bal m (zNx F L must rc bal k s) (zRn F (zNx F L must rc bal k s) s) := by
  rw [zHp, if_neg (by omega)]
theorem zRc_nx {F : Nat → Int} {L must bal k to s : Nat} (hok : zOk F L must bal k to s) (hF : F to ≤ 2) (hs : s ≤ k) (hk : k < to) : zRc F bal to (zRn F to s) := by
  have h3 := hok.2.2.1
  have h4 := hok.2.2.2
  unfold zRc
  unfold zRn at h4 ⊢
  by_cases q : F to = 2
  · rw [if_pos q]; exact Or.inl ⟨q, rfl⟩
  · rw [if_neg q] at h4 ⊢; exact Or.inr ⟨by omega, by omega, by omega, by omega⟩
theorem z_getD_app {l : List Nat} {x i : Nat} (h : i < l.length) : (l ++ [x]).getD i 0 = l.getD i 0 := by
  simp [List.getD, List.getElem?_append_left h]
theorem z_getD_end {l : List Nat} {x : Nat} : (l ++ [x]).getD l.length 0 = x := by
  simp [List.getD]
theorem dX4_follow_0 : decode cX4_follow 0 = .ok (.iconst 0, 1) := by decide +kernel
theorem dX4_follow_1 : decode cX4_follow 1 = .ok (.istore_n 1, 1) := by decide +kernel
theorem dX4_follow_2 : decode cX4_follow 2 = .ok (.iconst 0, 1) := by decide +kernel
theorem dX4_follow_3 : decode cX4_follow 3 = .ok (.istore_n 2, 1) := by decide +kernel
theorem dX4_follow_4 : decode cX4_follow 4 = .ok (.iload_n 1, 1) := by decide +kernel
theorem dX4_follow_5 : decode cX4_follow 5 = .ok (.aload_n 0, 1) := by decide +kernel
theorem dX4_follow_6 : decode cX4_follow 6 = .ok (.getfield 52, 3) := by decide +kernel
theorem dX4_follow_9 : decode cX4_follow 9 = .ok (.if_icmp .ge 74, 3) := by decide +kernel
theorem dX4_follow_12 : decode cX4_follow 12 = .ok (.aload_n 0, 1) := by decide +kernel
theorem dX4_follow_13 : decode cX4_follow 13 = .ok (.getfield 32, 3) := by decide +kernel
theorem dX4_follow_16 : decode cX4_follow 16 = .ok (.aload_n 0, 1) := by decide +kernel
theorem dX4_follow_17 : decode cX4_follow 17 = .ok (.getfield 9, 3) := by decide +kernel
theorem dX4_follow_20 : decode cX4_follow 20 = .ok (.arraylength, 1) := by decide +kernel
theorem dX4_follow_21 : decode cX4_follow 21 = .ok (.if_icmp .ge 62, 3) := by decide +kernel
theorem dX4_follow_24 : decode cX4_follow 24 = .ok (.iload_n 1, 1) := by decide +kernel
theorem dX4_follow_25 : decode cX4_follow 25 = .ok (.aload_n 0, 1) := by decide +kernel
theorem dX4_follow_26 : decode cX4_follow 26 = .ok (.getfield 21, 3) := by decide +kernel
theorem dX4_follow_29 : decode cX4_follow 29 = .ok (.iload_n 1, 1) := by decide +kernel
theorem dX4_follow_30 : decode cX4_follow 30 = .ok (.bipush 10, 2) := by decide +kernel
theorem dX4_follow_32 : decode cX4_follow 32 = .ok (.imul, 1) := by decide +kernel
theorem dX4_follow_33 : decode cX4_follow 33 = .ok (.iload_n 2, 1) := by decide +kernel
theorem dX4_follow_34 : decode cX4_follow 34 = .ok (.iadd, 1) := by decide +kernel
theorem dX4_follow_35 : decode cX4_follow 35 = .ok (.iaload, 1) := by decide +kernel
theorem dX4_follow_36 : decode cX4_follow 36 = .ok (.iadd, 1) := by decide +kernel
theorem dX4_follow_37 : decode cX4_follow 37 = .ok (.istore_n 1, 1) := by decide +kernel
theorem dX4_follow_38 : decode cX4_follow 38 = .ok (.aload_n 0, 1) := by decide +kernel
theorem dX4_follow_39 : decode cX4_follow 39 = .ok (.getfield 15, 3) := by decide +kernel
theorem dX4_follow_42 : decode cX4_follow 42 = .ok (.iload_n 1, 1) := by decide +kernel
theorem dX4_follow_43 : decode cX4_follow 43 = .ok (.iaload, 1) := by decide +kernel
theorem dX4_follow_44 : decode cX4_follow 44 = .ok (.iconst 2, 1) := by decide +kernel
theorem dX4_follow_45 : decode cX4_follow 45 = .ok (.if_icmp .ne 7, 3) := by decide +kernel
theorem dX4_follow_48 : decode cX4_follow 48 = .ok (.iconst 0, 1) := by decide +kernel
theorem dX4_follow_49 : decode cX4_follow 49 = .ok (.goto 6, 3) := by decide +kernel
theorem dX4_follow_52 : decode cX4_follow 52 = .ok (.iload_n 2, 1) := by decide +kernel
theorem dX4_follow_53 : decode cX4_follow 53 = .ok (.iconst 1, 1) := by decide +kernel
theorem dX4_follow_54 : decode cX4_follow 54 = .ok (.iadd, 1) := by decide +kernel
theorem dX4_follow_55 : decode cX4_follow 55 = .ok (.istore_n 2, 1) := by decide +kernel
theorem dX4_follow_56 : decode cX4_follow 56 = .ok (.aload_n 0, 1) := by decide +kernel
theorem dX4_follow_57 : decode cX4_follow 57 = .ok (.getfield 9, 3) := by decide +kernel
theorem dX4_follow_60 : decode cX4_follow 60 = .ok (.aload_n 0, 1) := by decide +kernel
theorem dX4_follow_61 : decode cX4_follow 61 = .ok (.getfield 32, 3) := by decide +kernel
theorem dX4_follow_64 : decode cX4_follow 64 = .ok (.aload_n 0, 1) := by decide +kernel
theorem dX4_follow_65 : decode cX4_follow 65 = .ok (.iload_n 1, 1) := by decide +kernel
theorem dX4_follow_66 : decode cX4_follow 66 = .ok (.invokevirtual 82, 3) := by decide +kernel
theorem dX4_follow_69 : decode cX4_follow 69 = .ok (.iastore, 1) := by decide +kernel
theorem dX4_follow_70 : decode cX4_follow 70 = .ok (.aload_n 0, 1) := by decide +kernel
theorem dX4_follow_71 : decode cX4_follow 71 = .ok (.dup, 1) := by decide +kernel
theorem dX4_follow_72 : decode cX4_follow 72 = .ok (.getfield 32, 3) := by decide +kernel
theorem dX4_follow_75 : decode cX4_follow 75 = .ok (.iconst 1, 1) := by decide +kernel
theorem dX4_follow_76 : decode cX4_follow 76 = .ok (.iadd, 1) := by decide +kernel
theorem dX4_follow_77 : decode cX4_follow 77 = .ok (.putfield 32, 3) := by decide +kernel
theorem dX4_follow_80 : decode cX4_follow 80 = .ok (.goto (-76), 3) := by decide +kernel
theorem dX4_follow_83 : decode cX4_follow 83 = .ok (.return_, 1) := by decide +kernel
set_option maxHeartbeats 1000000 in
theorem eX4_follow {w : Nat} {W : zWd} {F : Nat → Int} {L must rc bal : Nat}  {Q : Option Value → zWd → Prop} {X : zX} (hw : zWy w) (hS : zWS W w F L must rc bal) (hT : zTb W w F L must rc bal 0) (hV0 : zV F L must rc bal 0 0 < 1000000) (h20 : W w 2 = 0) (hb : zR (W w 0)) (hq : ∀ W' : zWd, (∀ j : Int, j ≠ 2 → W' w j = W w j) → (∀ k' : Nat, k' ≠ w → k' ≠ w + 1 → W' k' = W k') → W' w 2 = (zHp F L must rc bal (L + 1) 0 0).length → (∀ i : Nat, i < (zHp F L must rc bal (L + 1) 0 0).length → W' (w + 1) i = zRa (W w 0) L ((zHp F L must rc bal (L + 1) 0 0).getD i 0 : Nat)) → Q none W') : Ev MX4_follow 1 0 W [.ref w] Q X := by
  refine ev_of (ls := [.ref w, .null, .null]) (by decide) rfl (fun _ => rfl) (fun _ => Nat.le_of_ble_eq_true rfl) (Or.inl rfl) ?_
  obtain ⟨s1, s2, s3, s4, s5, s6, s7, s8, s9, s10, s11, s12, s13, s14, s15⟩ := id hS
  have loop : ∀ (n : Nat) (k s : Nat) (pre : List Nat) (mm : Nat) (Wi : zWd), zHp F L must rc bal (L + 1) 0 0 = pre ++ zHp F L must rc bal mm k s → pre.length ≤ k → k ≤ L → L + 1 ≤ mm + k → zV F L must rc bal k s < 1000000 → zRc F bal k s → (∀ j : Int, j ≠ 2 → Wi w j = W w j) → (∀ k' : Nat, k' ≠ w → k' ≠ w + 1 → Wi k' = W k') → Wi w 2 = pre.length → (∀ i : Nat, i < pre.length → Wi (w + 1) i = zRa (W w 0) L (pre.getD i 0 : Nat)) → (L - k) < n → RR MX4_follow 1 0 Wi 4 [.ref w, zI (k : Int), zI (s : Int)] [] (zEnd MX4_follow Q X) X := by
    intro n
    induction n with
    | zero => intro k s pre mm Wi _ _ _ _ _ _ _ _ _ _ hm9; omega
    | succ n ih =>
      intro k s pre mm Wi hl hn hkL hmm hv hr hO0 hO h2 hrows hm9
      refine rr_iload_n (pc := 4) dX4_follow_4 rfl ?_
      refine rr_aload_n (pc := 5) dX4_follow_5 rfl ?_
      refine rr_getI (pc := 6) (ji := 4) dX4_follow_6 fX4_52 hw.k hw.i4 rfl ?_
      rw [hO0 4 (by omega), s1]
      refine rr_icmp_ge (pc := 9) (tgt := 83) dX4_follow_9 (by decide) (by unfold zR; omega) (by unfold zR; omega) (fun h9 => ?_) (fun h9 => ?_)
      · have hkl : k = L := by omega
        exact rr_retv (pc := 83) dX4_follow_83 rfl rfl (hq Wi hO0 hO (by rw [hkl] at hl; rw [h2, hl, zHp_L, List.append_nil]) (fun i hi => by rw [hkl] at hl; rw [hl, zHp_L, List.append_nil] at hi ⊢; exact hrows i hi))
      · refine rr_aload_n (pc := 12) dX4_follow_12 rfl ?_
        refine rr_getI (pc := 13) (ji := 2) dX4_follow_13 fX4_32 hw.k hw.i2 rfl ?_
        rw [h2]
        refine rr_aload_n (pc := 16) dX4_follow_16 rfl ?_
        refine rr_getR (pc := 17) dX4_follow_17 fX4_9 hw.k hw.r3 ?_
        refine rr_alen (pc := 20) (ni := 11) dX4_follow_20 hw.a1 (by decide) rfl ?_
        refine rr_icmp_ge (pc := 21) (tgt := 83) dX4_follow_21 (by decide) (by unfold zR; omega) (by unfold zR; omega) (fun h21 => ?_) (fun h21 => ?_)
        · omega
        · obtain ⟨m, rfl⟩ : ∃ m, mm = m + 1 := ⟨mm - 1, by omega⟩
          obtain ⟨n1, n2, n3, n5, -, -⟩ := zNx_spec (F := F) (L := L) (must := must) (rc := rc) (bal := bal) (k := k) (run := s) (by omega) hv
          have n4 : zNx F L must rc bal k s ≤ L := n3.1
          have n6 := n3.2.2.2
          have n7 := n3.2.2.1
          have hsb : s ≤ 9 := by unfold zRc at hr; omega
          have eF : Wi (w + 2) (zNx F L must rc bal k s : Nat) = F (zNx F L must rc bal k s) := by rw [hO (w + 2) (by omega) (by omega)]; exact s5 _ n4
          have hFr := s8 _ n4
          refine rr_iload_n (pc := 24) dX4_follow_24 rfl ?_
          refine rr_aload_n (pc := 25) dX4_follow_25 rfl ?_
          refine rr_getR (pc := 26) dX4_follow_26 fX4_21 hw.k hw.r10 ?_
          refine rr_iload_n (pc := 29) dX4_follow_29 rfl ?_
          refine rr_bipush (n := (10)) dX4_follow_30 ?_
          refine rr_imul (pc := 32) dX4_follow_32 ?_
          refine rr_iload_n (pc := 33) dX4_follow_33 rfl ?_
          refine rr_iadd (pc := 34) dX4_follow_34 ?_
          refine rr_iald (pc := 35) dX4_follow_35 hw.a4 (by omega) (by omega) ?_
          rw [hO (w + 4) (by omega) (by omega), (hT k s (by omega) (by omega) hr).2 (by omega) hv]
          refine rr_iadd (pc := 36) dX4_follow_36 ?_
          rw [show (k : Int) + (((zNx F L must rc bal k s : Nat) : Int) - k) = (zNx F L must rc bal k s : Nat) by omega]
          refine rr_istore_n (pc := 37) dX4_follow_37 (by decide) ?_
          refine rr_aload_n (pc := 38) dX4_follow_38 rfl ?_
          refine rr_getR (pc := 39) dX4_follow_39 fX4_15 hw.k hw.r8 ?_
          refine rr_iload_n (pc := 42) dX4_follow_42 rfl ?_
          refine rr_iald (pc := 43) dX4_follow_43 hw.a2 (by omega) (by omega) ?_
          rw [eF]
          refine rr_iconst (n := 2) dX4_follow_44 ?_
          refine rr_icmp_ne (pc := 45) (tgt := 52) dX4_follow_45 (by decide) (by unfold zR; omega) (by unfold zR; omega) (fun h45 => ?_) (fun h45 => ?_)
          · have hrn : zRn F (zNx F L must rc bal k s) s = s + 1 := if_neg h45
            refine rr_iload_n (pc := 52) dX4_follow_52 rfl ?_
            refine rr_iconst (n := 1) dX4_follow_53 ?_
            refine rr_iadd (pc := 54) dX4_follow_54 ?_
            refine rr_istore_n (pc := 55) dX4_follow_55 (by decide) ?_
            refine rr_aload_n (pc := 56) dX4_follow_56 rfl ?_
            refine rr_getR (pc := 57) dX4_follow_57 fX4_9 hw.k hw.r3 ?_
            refine rr_aload_n (pc := 60) dX4_follow_60 rfl ?_
            refine rr_getI (pc := 61) (ji := 2) dX4_follow_61 fX4_32 hw.k hw.i2 rfl ?_
            rw [h2]
            refine rr_aload_n (pc := 64) dX4_follow_64 rfl ?_
            refine rr_iload_n (pc := 65) dX4_follow_65 rfl ?_
            refine rr_inv0 (M' := MX4_rowAt) (k := w) (As := [_]) (pc := 66) dX4_follow_66 lX4_82 kX4_rowAt vX4_rowAt hw.k (by decide) rfl (by decide) (by decide) (Nat.le_of_ble_eq_true rfl) rfl (eX4_rowAt hw (by rw [hO0 0 (by omega)]; exact hb) ?_)
            rw [hO0 0 (by omega), hO0 4 (by omega), s1]
            refine rr_iast (pc := 69) dX4_follow_69 hw.a1 (by omega) (by omega) ?_
            refine rr_aload_n (pc := 70) dX4_follow_70 rfl ?_
            refine rr_dup_r (pc := 71) dX4_follow_71 ?_
            refine rr_getI (pc := 72) (ji := 2) dX4_follow_72 fX4_32 hw.k hw.i2 rfl ?_
            rw [zup_k (by omega), h2]
            refine rr_iconst (n := 1) dX4_follow_75 ?_
            refine rr_iadd (pc := 76) dX4_follow_76 ?_
            refine rr_put (pc := 77) (ji := 2) dX4_follow_77 fX4_32 fp_4_2 hw.k hw.i2 rfl ?_
            refine rr_goto (pc := 80) (tgt := 4) dX4_follow_80 (by decide) ?_
            refine rr_eqL (ls' := [.ref w, zI (zNx F L must rc bal k s : Nat), zI (zRn F (zNx F L must rc bal k s) s : Nat)]) (by rw [hrn]; rfl) (ih (zNx F L must rc bal k s) (zRn F (zNx F L must rc bal k s) s) (pre ++ [zNx F L must rc bal k s]) m _ (by rw [hl, zHp_s (by omega), List.append_assoc]; rfl) (by rw [List.length_append, List.length_singleton]; omega) n4 (by omega) n5 (zRc_nx n3 (by omega) (by unfold zRc at hr; omega) n1) (fun j hj => by rw [zup_i hj, zup_k (by omega)]; exact hO0 j hj) (fun k' a1 a2 => by rw [zup_other k' a1, zup_other k' a2]; exact hO k' a1 a2) (by rw [zup_s, List.length_append, List.length_singleton]; omega) (fun i hi => ?_) (by omega))
            rw [zup_k (by omega)]
            rw [List.length_append, List.length_singleton] at hi
            by_cases q : i = pre.length
            · subst q
              rw [zup_s, z_getD_end]
            · rw [zup_i (by omega), z_getD_app (by omega)]
              exact hrows i (by omega)
          · have hrn : zRn F (zNx F L must rc bal k s) s = 0 := if_pos h45
            refine rr_iconst (n := 0) dX4_follow_48 ?_
            refine rr_goto (pc := 49) (tgt := 55) dX4_follow_49 (by decide) ?_
            refine rr_istore_n (pc := 55) dX4_follow_55 (by decide) ?_
            refine rr_aload_n (pc := 56) dX4_follow_56 rfl ?_
            refine rr_getR (pc := 57) dX4_follow_57 fX4_9 hw.k hw.r3 ?_
            refine rr_aload_n (pc := 60) dX4_follow_60 rfl ?_
            refine rr_getI (pc := 61) (ji := 2) dX4_follow_61 fX4_32 hw.k hw.i2 rfl ?_
            rw [h2]
            refine rr_aload_n (pc := 64) dX4_follow_64 rfl ?_
            refine rr_iload_n (pc := 65) dX4_follow_65 rfl ?_
            refine rr_inv0 (M' := MX4_rowAt) (k := w) (As := [_]) (pc := 66) dX4_follow_66 lX4_82 kX4_rowAt vX4_rowAt hw.k (by decide) rfl (by decide) (by decide) (Nat.le_of_ble_eq_true rfl) rfl (eX4_rowAt hw (by rw [hO0 0 (by omega)]; exact hb) ?_)
            rw [hO0 0 (by omega), hO0 4 (by omega), s1]
            refine rr_iast (pc := 69) dX4_follow_69 hw.a1 (by omega) (by omega) ?_
            refine rr_aload_n (pc := 70) dX4_follow_70 rfl ?_
            refine rr_dup_r (pc := 71) dX4_follow_71 ?_
            refine rr_getI (pc := 72) (ji := 2) dX4_follow_72 fX4_32 hw.k hw.i2 rfl ?_
            rw [zup_k (by omega), h2]
            refine rr_iconst (n := 1) dX4_follow_75 ?_
            refine rr_iadd (pc := 76) dX4_follow_76 ?_
            refine rr_put (pc := 77) (ji := 2) dX4_follow_77 fX4_32 fp_4_2 hw.k hw.i2 rfl ?_
            refine rr_goto (pc := 80) (tgt := 4) dX4_follow_80 (by decide) ?_
            refine rr_eqL (ls' := [.ref w, zI (zNx F L must rc bal k s : Nat), zI (zRn F (zNx F L must rc bal k s) s : Nat)]) (by rw [hrn]; rfl) (ih (zNx F L must rc bal k s) (zRn F (zNx F L must rc bal k s) s) (pre ++ [zNx F L must rc bal k s]) m _ (by rw [hl, zHp_s (by omega), List.append_assoc]; rfl) (by rw [List.length_append, List.length_singleton]; omega) n4 (by omega) n5 (zRc_nx n3 (by omega) (by unfold zRc at hr; omega) n1) (fun j hj => by rw [zup_i hj, zup_k (by omega)]; exact hO0 j hj) (fun k' a1 a2 => by rw [zup_other k' a1, zup_other k' a2]; exact hO k' a1 a2) (by rw [zup_s, List.length_append, List.length_singleton]; omega) (fun i hi => ?_) (by omega))
            rw [zup_k (by omega)]
            rw [List.length_append, List.length_singleton] at hi
            by_cases q : i = pre.length
            · subst q
              rw [zup_s, z_getD_end]
            · rw [zup_i (by omega), z_getD_app (by omega)]
              exact hrows i (by omega)
  refine rr_iconst (n := 0) dX4_follow_0 ?_
  refine rr_istore_n (pc := 1) dX4_follow_1 (by decide) ?_
  refine rr_iconst (n := 0) dX4_follow_2 ?_
  refine rr_istore_n (pc := 3) dX4_follow_3 (by decide) ?_
  exact loop _ 0 0 [] (L + 1) W rfl (Nat.le_refl _) (by omega) (by omega) hV0 (Or.inl ⟨s6, rfl⟩) (fun _ _ => rfl) (fun _ _ _ => rfl) (by rw [h20]; rfl) (fun i hi => by cases hi) (Nat.lt_succ_self _)
def aUse (a : Int → Int) (q own : Int) (i : Nat) : Bool := decide ((i : Int) ≠ own) && decide (¬ aForb a q i) && !(zMks a q (a 2).toNat).testBit i
def zFt (a : Int → Int) (q own bk : Int) (k : Nat) : Int :=
  if k = 0 ∨ a 0 + 1 ≤ (k : Int) then 2 else zFo (aF a (zRa bk (a 0 + 1) k).toNat).toNat (a (8 + zRa bk (a 0 + 1) k)) (aUse a q own) (fun i => decide (aO a i = q))
theorem zFo_rng (f : Nat) (w : Int) (u o : Nat → Bool) : 0 ≤ zFo f w u o ∧ zFo f w u o ≤ 2 := by
  unfold zFo; (repeat' split) <;> omega
theorem zFt_rng (a : Int → Int) (q own bk : Int) (k : Nat) : 0 ≤ zFt a q own bk k ∧ zFt a q own bk k ≤ 2 := by
  unfold zFt; split
  · omega
  · exact zFo_rng _ _ _ _
theorem zFo_cg {f : Nat} {w : Int} {u u' o o' : Nat → Bool} (h1 : u f = u' f) (h2 : o f = o' f) (h3 : w = 2 → u (f + 1) = u' (f + 1)) (h4 : w = 2 → o (f + 1) = o' (f + 1)) : zFo f w u o = zFo f w u' o' := by
  unfold zFo
  by_cases h : w = 2
  · rw [h1, h2, h3 h, h4 h]
  · simp [h, h1, h2]
theorem zFo_use {T : Int} {a : Int → Int} {q own : Int} {ob : Nat} {r : Int} (hw : zWf T a) (h0 : 0 ≤ r) (h1 : r < a 0) (hob : ∀ i : Nat, 1 ≤ i → (i : Int) ≤ a 1 → (ob.testBit i = true ↔ (i : Int) = own)) :
    zFo (aF a r.toNat).toNat (a (8 + r)) (fun i => (aUset a q (zMks a q (a 2).toNat ||| ob)).testBit i) (fun i => (zSet (fun s => decide (aO a s = q)) (a 1).toNat).testBit i) = zFo (aF a r.toNat).toNat (a (8 + r)) (aUse a q own) (fun i => decide (aO a i = q)) := by
  have hsq := zWf.sq hw
  have hf := aF_lo hw (r := r.toNat) (by omega)
  have hf2 := aF_le hw (r := r.toNat + 1) (by omega)
  have hst := aF_step (a := a) r.toNat
  rw [show ((r.toNat : Nat) : Int) = r by omega] at hst
  have hww := hw.2.2.1 r h0 h1
  have key : ∀ i : Nat, 1 ≤ i → (i : Int) ≤ a 1 → (aUset a q (zMks a q (a 2).toNat ||| ob)).testBit i = aUse a q own i ∧ (zSet (fun s => decide (aO a s = q)) (a 1).toNat).testBit i = decide (aO a i = q) := by
    intro i g1 g2
    refine ⟨?_, ?_⟩
    · rw [Bool.eq_iff_iff, aUset_bit (by omega), Nat.testBit_or]
      have h9 := hob i g1 g2
      unfold aUse
      by_cases e1 : aO a i = -1 <;> by_cases e2 : aO a i = q <;> cases hb : ob.testBit i <;> cases hm : (zMks a q (a 2).toNat).testBit i <;> simp [hb, g1, g2, aForb, e1, e2] at h9 ⊢ <;> simp_all
    · rw [zSet_bit]
      have : 1 ≤ i ∧ i ≤ (a 1).toNat := by omega
      simp [this]
  obtain ⟨k1, k2⟩ := key (aF a r.toNat).toNat (by omega) (by omega)
  refine zFo_cg k1 k2 (fun h => ?_) (fun h => ?_)
  · exact (key ((aF a r.toNat).toNat + 1) (by omega) (by omega)).1
  · exact (key ((aF a r.toNat).toNat + 1) (by omega) (by omega)).2
theorem dX4_layFootings_0 : decode cX4_layFootings 0 = .ok (.aload_n 0, 1) := by decide +kernel
theorem dX4_layFootings_1 : decode cX4_layFootings 1 = .ok (.getfield 24, 3) := by decide +kernel
theorem dX4_layFootings_4 : decode cX4_layFootings 4 = .ok (.ifCond .eq 7, 3) := by decide +kernel
theorem dX4_layFootings_7 : decode cX4_layFootings 7 = .ok (.iconst 0, 1) := by decide +kernel
theorem dX4_layFootings_8 : decode cX4_layFootings 8 = .ok (.goto 6, 3) := by decide +kernel
theorem dX4_layFootings_11 : decode cX4_layFootings 11 = .ok (.iconst 1, 1) := by decide +kernel
theorem dX4_layFootings_12 : decode cX4_layFootings 12 = .ok (.iload_n 3, 1) := by decide +kernel
theorem dX4_layFootings_13 : decode cX4_layFootings 13 = .ok (.ishl, 1) := by decide +kernel
theorem dX4_layFootings_14 : decode cX4_layFootings 14 = .ok (.istore 4, 2) := by decide +kernel
theorem dX4_layFootings_16 : decode cX4_layFootings 16 = .ok (.aload_n 1, 1) := by decide +kernel
theorem dX4_layFootings_17 : decode cX4_layFootings 17 = .ok (.iload_n 2, 1) := by decide +kernel
theorem dX4_layFootings_18 : decode cX4_layFootings 18 = .ok (.aload_n 1, 1) := by decide +kernel
theorem dX4_layFootings_19 : decode cX4_layFootings 19 = .ok (.iload_n 2, 1) := by decide +kernel
theorem dX4_layFootings_20 : decode cX4_layFootings 20 = .ok (.invokevirtual 72, 3) := by decide +kernel
theorem dX4_layFootings_23 : decode cX4_layFootings 23 = .ok (.iload 4, 2) := by decide +kernel
theorem dX4_layFootings_25 : decode cX4_layFootings 25 = .ok (.ior, 1) := by decide +kernel
theorem dX4_layFootings_26 : decode cX4_layFootings 26 = .ok (.invokevirtual 76, 3) := by decide +kernel
theorem dX4_layFootings_29 : decode cX4_layFootings 29 = .ok (.istore 5, 2) := by decide +kernel
theorem dX4_layFootings_31 : decode cX4_layFootings 31 = .ok (.aload_n 1, 1) := by decide +kernel
theorem dX4_layFootings_32 : decode cX4_layFootings 32 = .ok (.iload_n 2, 1) := by decide +kernel
theorem dX4_layFootings_33 : decode cX4_layFootings 33 = .ok (.invokevirtual 79, 3) := by decide +kernel
theorem dX4_layFootings_36 : decode cX4_layFootings 36 = .ok (.istore 6, 2) := by decide +kernel
theorem dX4_layFootings_38 : decode cX4_layFootings 38 = .ok (.aload_n 0, 1) := by decide +kernel
theorem dX4_layFootings_39 : decode cX4_layFootings 39 = .ok (.getfield 15, 3) := by decide +kernel
theorem dX4_layFootings_42 : decode cX4_layFootings 42 = .ok (.iconst 0, 1) := by decide +kernel
theorem dX4_layFootings_43 : decode cX4_layFootings 43 = .ok (.iconst 2, 1) := by decide +kernel
theorem dX4_layFootings_44 : decode cX4_layFootings 44 = .ok (.iastore, 1) := by decide +kernel
theorem dX4_layFootings_45 : decode cX4_layFootings 45 = .ok (.aload_n 0, 1) := by decide +kernel
theorem dX4_layFootings_46 : decode cX4_layFootings 46 = .ok (.getfield 15, 3) := by decide +kernel
theorem dX4_layFootings_49 : decode cX4_layFootings 49 = .ok (.aload_n 0, 1) := by decide +kernel
theorem dX4_layFootings_50 : decode cX4_layFootings 50 = .ok (.getfield 52, 3) := by decide +kernel
theorem dX4_layFootings_53 : decode cX4_layFootings 53 = .ok (.iconst 2, 1) := by decide +kernel
theorem dX4_layFootings_54 : decode cX4_layFootings 54 = .ok (.iastore, 1) := by decide +kernel
theorem dX4_layFootings_55 : decode cX4_layFootings 55 = .ok (.iconst 1, 1) := by decide +kernel
theorem dX4_layFootings_56 : decode cX4_layFootings 56 = .ok (.istore 7, 2) := by decide +kernel
theorem dX4_layFootings_58 : decode cX4_layFootings 58 = .ok (.iload 7, 2) := by decide +kernel
theorem dX4_layFootings_60 : decode cX4_layFootings 60 = .ok (.aload_n 0, 1) := by decide +kernel
theorem dX4_layFootings_61 : decode cX4_layFootings 61 = .ok (.getfield 52, 3) := by decide +kernel
theorem dX4_layFootings_64 : decode cX4_layFootings 64 = .ok (.if_icmp .ge 30, 3) := by decide +kernel
theorem dX4_layFootings_67 : decode cX4_layFootings 67 = .ok (.aload_n 0, 1) := by decide +kernel
theorem dX4_layFootings_68 : decode cX4_layFootings 68 = .ok (.getfield 15, 3) := by decide +kernel
theorem dX4_layFootings_71 : decode cX4_layFootings 71 = .ok (.iload 7, 2) := by decide +kernel
theorem dX4_layFootings_73 : decode cX4_layFootings 73 = .ok (.aload_n 1, 1) := by decide +kernel
theorem dX4_layFootings_74 : decode cX4_layFootings 74 = .ok (.aload_n 0, 1) := by decide +kernel
theorem dX4_layFootings_75 : decode cX4_layFootings 75 = .ok (.iload 7, 2) := by decide +kernel
theorem dX4_layFootings_77 : decode cX4_layFootings 77 = .ok (.invokevirtual 82, 3) := by decide +kernel
theorem dX4_layFootings_80 : decode cX4_layFootings 80 = .ok (.iload 5, 2) := by decide +kernel
theorem dX4_layFootings_82 : decode cX4_layFootings 82 = .ok (.iload 6, 2) := by decide +kernel
theorem dX4_layFootings_84 : decode cX4_layFootings 84 = .ok (.invokevirtual 85, 3) := by decide +kernel
theorem dX4_layFootings_87 : decode cX4_layFootings 87 = .ok (.iastore, 1) := by decide +kernel
theorem dX4_layFootings_88 : decode cX4_layFootings 88 = .ok (.iinc 7 1, 3) := by decide +kernel
theorem dX4_layFootings_91 : decode cX4_layFootings 91 = .ok (.goto (-33), 3) := by decide +kernel
theorem dX4_layFootings_94 : decode cX4_layFootings 94 = .ok (.return_, 1) := by decide +kernel
set_option maxHeartbeats 1000000 in
theorem eX4_layFootings {w c : Nat} {W : zWd} {a : Int → Int} {T q tg : Int} {Q : Option Value → zWd → Prop} {X : zX} (hw : zWy w) (hc : zCt c) (hR : zCR W c a) (hwf : zWf T a) (hbz : zR (W w 0)) (h4 : W w 4 = a 0 + 1) (hq0 : 0 ≤ q) (hq1 : q < a 2) (ht0 : 1 ≤ tg) (ht1 : tg ≤ a 1) (hq : ∀ W' : zWd, (∀ j : Nat, j ≠ w + 2 → W' j = W j) → (∀ k : Nat, (k : Int) ≤ a 0 + 1 → W' (w + 2) k = zFt a q (if W w 0 = 0 then tg else 0) (W w 0) k) → Q none W') : Ev MX4_layFootings 2 0 W [.ref w, .ref c, zI q, zI tg] Q X := by
  refine ev_of (ls := [.ref w, .ref c, zI q, zI tg, .null, .null, .null, .null]) (by decide) rfl (fun _ => rfl) (fun _ => Nat.le_of_ble_eq_true rfl) (Or.inl rfl) ?_
  obtain ⟨r0, r1, r2, r3, r4, r5, r6, r7, rF, rS, rP, rB⟩ := id hR
  obtain ⟨w0, w0', wW, w1, w2, w2', w3, w3', w4, w4', w5, w5', w6, w6', w7, w7', wS, wP, wT⟩ := id hwf
  have wq := zWf.sq hwf
  have hcw := hc.lt
  have hcd : c + 8 ≤ w := by rcases hw with rfl | rfl <;> omega
  have hm32 := zMks_lt (a := a) (w := q) (a 2).toNat (fun z a1 a2 => by have := wP z a1 (by omega); unfold zWfP at this; omega)
  have main : ∀ ob : Nat, ob < 2097152 → (∀ i : Nat, 1 ≤ i → (i : Int) ≤ a 1 → (ob.testBit i = true ↔ (i : Int) = (if W w 0 = 0 then tg else 0))) → RR MX4_layFootings 2 0 W 16 [.ref w, .ref c, zI q, zI tg, zI (ob : Int), .null, .null, .null] [] (zEnd MX4_layFootings Q X) X := by
    intro ob hob32 hob
    have loop : ∀ (n : Nat) (k : Int) (Wi : zWd), 1 ≤ k → k ≤ a 0 + 1 → (∀ j : Nat, j ≠ w + 2 → Wi j = W j) → (∀ i : Nat, ((i : Int) < k ∨ (i : Int) = a 0 + 1) → Wi (w + 2) i = zFt a q (if W w 0 = 0 then tg else 0) (W w 0) i) → (a 0 + 1 - k).toNat < n → RR MX4_layFootings 2 0 Wi 58 [.ref w, .ref c, zI q, zI tg, zI (ob : Int), zI (aUset a q (zMks a q (a 2).toNat ||| ob) : Nat), zI (zSet (fun s => decide (aO a s = q)) (a 1).toNat : Nat), zI k] [] (zEnd MX4_layFootings Q X) X := by
      intro n
      induction n with
      | zero => intro k Wi _ _ _ _ hm9; omega
      | succ n ih =>
        intro k Wi k1 k2 hO hFo hm9
        refine rr_iload (pc := 58) dX4_layFootings_58 rfl ?_
        refine rr_aload_n (pc := 60) dX4_layFootings_60 rfl ?_
        refine rr_getI (pc := 61) (ji := 4) dX4_layFootings_61 fX4_52 hw.k hw.i4 rfl ?_
        rw [hO w (by omega), h4]
        refine rr_icmp_ge (pc := 64) (tgt := 94) dX4_layFootings_64 (by decide) (by unfold zR; omega) (by unfold zR; omega) (fun h64 => ?_) (fun h64 => ?_)
        · exact rr_retv (pc := 94) dX4_layFootings_94 rfl rfl (hq Wi hO (fun i hi => hFo i (by omega)))
        · refine rr_aload_n (pc := 67) dX4_layFootings_67 rfl ?_
          refine rr_getR (pc := 68) dX4_layFootings_68 fX4_15 hw.k hw.r8 ?_
          refine rr_iload (pc := 71) dX4_layFootings_71 rfl ?_
          refine rr_aload_n (pc := 73) dX4_layFootings_73 rfl ?_
          refine rr_aload_n (pc := 74) dX4_layFootings_74 rfl ?_
          refine rr_iload (pc := 75) dX4_layFootings_75 rfl ?_
          refine rr_inv0 (M' := MX4_rowAt) (k := w) (As := [_]) (pc := 77) dX4_layFootings_77 lX4_82 kX4_rowAt vX4_rowAt hw.k (by decide) rfl (by decide) (by decide) (Nat.le_of_ble_eq_true rfl) rfl (eX4_rowAt hw (by rw [hO w (by omega)]; exact hbz) ?_)
          rw [hO w (by omega), h4]
          have hra : 0 ≤ zRa (W w 0) (a 0 + 1) k ∧ zRa (W w 0) (a 0 + 1) k < a 0 := by unfold zRa; split <;> omega
          refine rr_iload (pc := 80) dX4_layFootings_80 rfl ?_
          refine rr_iload (pc := 82) dX4_layFootings_82 rfl ?_
          refine rr_invN (M' := MX0_footingOf) (k := c) (As := [_, _, _]) (pc := 84) dX4_layFootings_84 lX4_85 kX0_footingOf vX0_footingOf hc.k (by decide) rfl (by decide) (by decide) (Nat.le_of_ble_eq_true rfl) rfl (eX0_footingOf hc (CR_off hR (fun j g1 g2 => hO j (by omega))) hwf hra.1 hra.2 (aUset_lt (by omega)) (zSet_32 _ (by omega)) ?_)
          rw [zFo_use (own := (if W w 0 = 0 then tg else 0)) hwf hra.1 hra.2 hob]
          refine rr_iast (pc := 87) dX4_layFootings_87 hw.a2 (by omega) (by omega) ?_
          refine rr_iinc (pc := 88) dX4_layFootings_88 rfl (by decide) ?_
          refine rr_goto (pc := 91) (tgt := 58) dX4_layFootings_91 (by decide) ?_
          exact ih (k + 1) _ (by omega) (by omega) (fun j hj => by rw [zup_other j hj]; exact hO j hj) (fun i hi => by
            by_cases z : (i : Int) = k
            · rw [z, zup_s]
              unfold zFt
              rw [if_neg (show ¬ (i = 0 ∨ a 0 + 1 ≤ (i : Int)) by omega), z]
            · rw [zup_i (by omega)]
              exact hFo i (by omega)) (by omega)
    refine rr_aload_n (pc := 16) dX4_layFootings_16 rfl ?_
    refine rr_iload_n (pc := 17) dX4_layFootings_17 rfl ?_
    refine rr_aload_n (pc := 18) dX4_layFootings_18 rfl ?_
    refine rr_iload_n (pc := 19) dX4_layFootings_19 rfl ?_
    refine rr_invN (M' := MX0_markedSquares) (k := c) (As := [_]) (pc := 20) dX4_layFootings_20 lX4_72 kX0_markedSquares vX0_markedSquares hc.k (by decide) rfl (by decide) (by decide) (Nat.le_of_ble_eq_true rfl) rfl (eX0_markedSquares hc hR hwf (by unfold zR; omega) ?_)
    refine rr_iload (pc := 23) dX4_layFootings_23 rfl ?_
    refine rr_ior (pc := 25) dX4_layFootings_25 (Nat.lt_trans hm32 (by decide)) (by omega) ?_
    have hor := Nat.or_lt_two_pow (n := 21) hm32 hob32
    refine rr_invN (M' := MX0_usableSet) (k := c) (As := [_, _]) (pc := 26) dX4_layFootings_26 lX4_76 kX0_usableSet vX0_usableSet hc.k (by decide) rfl (by decide) (by decide) (Nat.le_of_ble_eq_true rfl) rfl (eX0_usableSet hc hR hwf (by unfold zR; omega) hor ?_)
    refine rr_istore (pc := 29) dX4_layFootings_29 (by decide) ?_
    refine rr_aload_n (pc := 31) dX4_layFootings_31 rfl ?_
    refine rr_iload_n (pc := 32) dX4_layFootings_32 rfl ?_
    refine rr_invN (M' := MX0_squaresOf) (k := c) (As := [_]) (pc := 33) dX4_layFootings_33 lX4_79 kX0_squaresOf vX0_squaresOf hc.k (by decide) rfl (by decide) (by decide) (Nat.le_of_ble_eq_true rfl) rfl (eX0_squaresOf hc hR hwf (by unfold zR; omega) ?_)
    refine rr_istore (pc := 36) dX4_layFootings_36 (by decide) ?_
    refine rr_aload_n (pc := 38) dX4_layFootings_38 rfl ?_
    refine rr_getR (pc := 39) dX4_layFootings_39 fX4_15 hw.k hw.r8 ?_
    refine rr_iconst (n := 0) dX4_layFootings_42 ?_
    refine rr_iconst (n := 2) dX4_layFootings_43 ?_
    refine rr_iast (pc := 44) dX4_layFootings_44 hw.a2 (by omega) (by omega) ?_
    refine rr_aload_n (pc := 45) dX4_layFootings_45 rfl ?_
    refine rr_getR (pc := 46) dX4_layFootings_46 fX4_15 hw.k hw.r8 ?_
    refine rr_aload_n (pc := 49) dX4_layFootings_49 rfl ?_
    refine rr_getI (pc := 50) (ji := 4) dX4_layFootings_50 fX4_52 hw.k hw.i4 rfl ?_
    rw [zup_k (by omega), h4]
    refine rr_iconst (n := 2) dX4_layFootings_53 ?_
    refine rr_iast (pc := 54) dX4_layFootings_54 hw.a2 (by omega) (by omega) ?_
    refine rr_iconst (n := 1) dX4_layFootings_55 ?_
    refine rr_istore (pc := 56) dX4_layFootings_56 (by decide) ?_
    exact loop _ 1 _ (by omega) (by omega) (fun j hj => by rw [zup_other j hj, zup_other j hj]) (fun i hi => by
      by_cases z : (i : Int) = a 0 + 1
      · rw [z, zup_s]; unfold zFt; rw [if_pos (by omega)]
      · rw [zup_i z, show (i : Int) = 0 by omega, zup_s]; unfold zFt; rw [if_pos (by omega)]) (Nat.lt_succ_self _)
  refine rr_aload_n (pc := 0) dX4_layFootings_0 rfl ?_
  refine rr_getI (pc := 1) (ji := 0) dX4_layFootings_1 fX4_24 hw.k hw.i0 rfl ?_
  refine rr_if_eq (pc := 4) (tgt := 11) dX4_layFootings_4 (by decide) hbz (fun h4 => ?_) (fun h4 => ?_)
  · refine rr_iconst (n := 1) dX4_layFootings_11 ?_
    refine rr_iload_n (pc := 12) dX4_layFootings_12 rfl ?_
    refine rr_ishl1 (pc := 13) dX4_layFootings_13 (by omega) (by omega) ?_
    refine rr_istore (pc := 14) dX4_layFootings_14 (by decide) ?_
    exact main (2 ^ tg.toNat) (Nat.pow_lt_pow_right (a := 2) (n := 21) (by decide) (by omega)) (fun i g1 g2 => by rw [if_pos h4, Nat.testBit_two_pow, decide_eq_true_eq]; omega)
  · refine rr_iconst (n := 0) dX4_layFootings_7 ?_
    refine rr_goto (pc := 8) (tgt := 14) dX4_layFootings_8 (by decide) ?_
    refine rr_istore (pc := 14) dX4_layFootings_14 (by decide) ?_
    exact main 0 (by decide) (fun i g1 g2 => by rw [if_neg h4, Nat.zero_testBit]; exact ⟨fun z => (by cases z), fun z => (by omega)⟩)
