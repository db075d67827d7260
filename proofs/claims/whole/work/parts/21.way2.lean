/-- the tables are right from the place k0 on -/
def zTb (W : zWd) (w : Nat) (F : Nat → Int) (L must rc bal : Nat) (k0 : Int) : Prop := ∀ k s : Nat, k0 ≤ k → k ≤ L → zRc F bal k s → W (w + 3) ((k : Int) * 10 + s) = zV F L must rc bal k s ∧ (k < L → zV F L must rc bal k s < 1000000 → W (w + 4) ((k : Int) * 10 + s) = (zNx F L must rc bal k s : Nat) - k)
/-- what a hop reads is there -/
theorem zTb.rd {W : zWd} {w : Nat} {F : Nat → Int} {L must rc bal fr sh : Nat} (h : zTb W w F L must rc bal (fr + 1)) (hF : ∀ k, k ≤ L → 0 ≤ F k ∧ F k ≤ 2) (hs : sh ≤ fr) : ∀ to : Nat, fr < to → zOk F L must bal fr to sh → W (w + 3) ((to : Int) * 10 + (zRn F to sh : Nat)) = zV F L must rc bal to (zRn F to sh) := by
  intro to h1 hok
  refine (h to (zRn F to sh) (by omega) hok.1 ?_).1
  have h2 := hF to hok.1
  have h3 := hok.2.2.1
  have h4 := hok.2.2.2
  unfold zRc
  unfold zRn at h4 ⊢
  by_cases q : F to = 2
  · rw [if_pos q]; exact Or.inl ⟨q, rfl⟩
  · rw [if_neg q] at h4 ⊢; exact Or.inr ⟨by omega, by omega, by omega, by omega⟩
/-- one entry more -/
theorem zTb.keep {W W' : zWd} {w : Nat} {F : Nat → Int} {L must rc bal fr sh : Nat} {k0 : Int} (h : zTb W w F L must rc bal k0) (hk : (fr : Int) < k0) (hb : bal ≤ 9) (hsh : sh ≤ 9) (hI : ∀ i : Int, i ≠ fr * 10 + sh → W' (w + 3) i = W (w + 3) i ∧ W' (w + 4) i = W (w + 4) i) : zTb W' w F L must rc bal k0 := by
  intro k s h1 h2 h3
  have hs : s ≤ 9 := by unfold zRc at h3; omega
  obtain ⟨g1, g2⟩ := hI ((k : Int) * 10 + s) (by omega)
  obtain ⟨g3, g4⟩ := h k s h1 h2 h3
  exact ⟨g1.trans g3, fun q1 q2 => g2.trans (g4 q1 q2)⟩
theorem dX4_reckon_0 : decode cX4_reckon 0 = .ok (.aload_n 0, 1) := by decide +kernel
theorem dX4_reckon_1 : decode cX4_reckon 1 = .ok (.getfield 18, 3) := by decide +kernel
theorem dX4_reckon_4 : decode cX4_reckon 4 = .ok (.aload_n 0, 1) := by decide +kernel
theorem dX4_reckon_5 : decode cX4_reckon 5 = .ok (.getfield 52, 3) := by decide +kernel
theorem dX4_reckon_8 : decode cX4_reckon 8 = .ok (.bipush 10, 2) := by decide +kernel
theorem dX4_reckon_10 : decode cX4_reckon 10 = .ok (.imul, 1) := by decide +kernel
theorem dX4_reckon_11 : decode cX4_reckon 11 = .ok (.iconst 0, 1) := by decide +kernel
theorem dX4_reckon_12 : decode cX4_reckon 12 = .ok (.iastore, 1) := by decide +kernel
theorem dX4_reckon_13 : decode cX4_reckon 13 = .ok (.aload_n 0, 1) := by decide +kernel
theorem dX4_reckon_14 : decode cX4_reckon 14 = .ok (.getfield 52, 3) := by decide +kernel
theorem dX4_reckon_17 : decode cX4_reckon 17 = .ok (.iconst 1, 1) := by decide +kernel
theorem dX4_reckon_18 : decode cX4_reckon 18 = .ok (.isub, 1) := by decide +kernel
theorem dX4_reckon_19 : decode cX4_reckon 19 = .ok (.istore_n 1, 1) := by decide +kernel
theorem dX4_reckon_20 : decode cX4_reckon 20 = .ok (.iload_n 1, 1) := by decide +kernel
theorem dX4_reckon_21 : decode cX4_reckon 21 = .ok (.ifCond .lt 65, 3) := by decide +kernel
theorem dX4_reckon_24 : decode cX4_reckon 24 = .ok (.aload_n 0, 1) := by decide +kernel
theorem dX4_reckon_25 : decode cX4_reckon 25 = .ok (.getfield 15, 3) := by decide +kernel
theorem dX4_reckon_28 : decode cX4_reckon 28 = .ok (.iload_n 1, 1) := by decide +kernel
theorem dX4_reckon_29 : decode cX4_reckon 29 = .ok (.iaload, 1) := by decide +kernel
theorem dX4_reckon_30 : decode cX4_reckon 30 = .ok (.iconst 2, 1) := by decide +kernel
theorem dX4_reckon_31 : decode cX4_reckon 31 = .ok (.if_icmp .ne 12, 3) := by decide +kernel
theorem dX4_reckon_34 : decode cX4_reckon 34 = .ok (.aload_n 0, 1) := by decide +kernel
theorem dX4_reckon_35 : decode cX4_reckon 35 = .ok (.iload_n 1, 1) := by decide +kernel
theorem dX4_reckon_36 : decode cX4_reckon 36 = .ok (.iconst 0, 1) := by decide +kernel
theorem dX4_reckon_37 : decode cX4_reckon 37 = .ok (.invokevirtual 89, 3) := by decide +kernel
theorem dX4_reckon_40 : decode cX4_reckon 40 = .ok (.goto 40, 3) := by decide +kernel
theorem dX4_reckon_43 : decode cX4_reckon 43 = .ok (.aload_n 0, 1) := by decide +kernel
theorem dX4_reckon_44 : decode cX4_reckon 44 = .ok (.getfield 15, 3) := by decide +kernel
theorem dX4_reckon_47 : decode cX4_reckon 47 = .ok (.iload_n 1, 1) := by decide +kernel
theorem dX4_reckon_48 : decode cX4_reckon 48 = .ok (.iaload, 1) := by decide +kernel
theorem dX4_reckon_49 : decode cX4_reckon 49 = .ok (.iconst 1, 1) := by decide +kernel
theorem dX4_reckon_50 : decode cX4_reckon 50 = .ok (.if_icmp .ne 30, 3) := by decide +kernel
theorem dX4_reckon_53 : decode cX4_reckon 53 = .ok (.iconst 1, 1) := by decide +kernel
theorem dX4_reckon_54 : decode cX4_reckon 54 = .ok (.istore_n 2, 1) := by decide +kernel
theorem dX4_reckon_55 : decode cX4_reckon 55 = .ok (.iload_n 2, 1) := by decide +kernel
theorem dX4_reckon_56 : decode cX4_reckon 56 = .ok (.aload_n 0, 1) := by decide +kernel
theorem dX4_reckon_57 : decode cX4_reckon 57 = .ok (.getfield 47, 3) := by decide +kernel
theorem dX4_reckon_60 : decode cX4_reckon 60 = .ok (.if_icmp .gt 20, 3) := by decide +kernel
theorem dX4_reckon_63 : decode cX4_reckon 63 = .ok (.iload_n 2, 1) := by decide +kernel
theorem dX4_reckon_64 : decode cX4_reckon 64 = .ok (.iload_n 1, 1) := by decide +kernel
theorem dX4_reckon_65 : decode cX4_reckon 65 = .ok (.if_icmp .gt 15, 3) := by decide +kernel
theorem dX4_reckon_68 : decode cX4_reckon 68 = .ok (.aload_n 0, 1) := by decide +kernel
theorem dX4_reckon_69 : decode cX4_reckon 69 = .ok (.iload_n 1, 1) := by decide +kernel
theorem dX4_reckon_70 : decode cX4_reckon 70 = .ok (.iload_n 2, 1) := by decide +kernel
theorem dX4_reckon_71 : decode cX4_reckon 71 = .ok (.invokevirtual 89, 3) := by decide +kernel
theorem dX4_reckon_74 : decode cX4_reckon 74 = .ok (.iinc 2 1, 3) := by decide +kernel
theorem dX4_reckon_77 : decode cX4_reckon 77 = .ok (.goto (-22), 3) := by decide +kernel
theorem dX4_reckon_80 : decode cX4_reckon 80 = .ok (.iinc 1 (-1), 3) := by decide +kernel
theorem dX4_reckon_83 : decode cX4_reckon 83 = .ok (.goto (-63), 3) := by decide +kernel
theorem dX4_reckon_86 : decode cX4_reckon 86 = .ok (.return_, 1) := by decide +kernel
theorem z_reckon_in {w : Nat} {W : zWd} {F : Nat → Int} {L must rc bal : Nat} {fr : Nat} {Q : Option Value → zWd → Prop} {X : zX} (hw : zWy w) (hS : zWS W w F L must rc bal) (hfr : fr < L) (hend : ∀ (Wj : zWd) (sh : Int), ((bal : Int) < sh ∨ (fr : Int) < sh) → (∀ k : Nat, k ≠ w + 3 → k ≠ w + 4 → Wj k = W k) → zTb Wj w F L must rc bal ((fr : Int) + 1) → (∀ s : Nat, 1 ≤ s → (s : Int) < sh → Wj (w + 3) ((fr : Int) * 10 + s) = zV F L must rc bal fr s ∧ (fr < L → zV F L must rc bal fr s < 1000000 → Wj (w + 4) ((fr : Int) * 10 + s) = (zNx F L must rc bal fr s : Nat) - fr)) → RR MX4_reckon 2 0 Wj 80 [.ref w, zI (fr : Int), zI sh] [] (zEnd MX4_reckon Q X) X) (Wi : zWd) (hO : ∀ k : Nat, k ≠ w + 3 → k ≠ w + 4 → Wi k = W k) (hT : zTb Wi w F L must rc bal ((fr : Int) + 1)) : RR MX4_reckon 2 0 Wi 55 [.ref w, zI (fr : Int), zI 1] [] (zEnd MX4_reckon Q X) X := by
  obtain ⟨s1, s2, s3, s4, s5, s6, s7, s8, s9, s10, s11, s12, s13, s14, s15⟩ := id hS
  have hFr := s8 fr (by omega)
  have loop : ∀ (n : Nat) (sh : Int) (Wj : zWd), 1 ≤ sh → sh ≤ 10 → (∀ k : Nat, k ≠ w + 3 → k ≠ w + 4 → Wj k = W k) → zTb Wj w F L must rc bal ((fr : Int) + 1) → (∀ s : Nat, 1 ≤ s → (s : Int) < sh → Wj (w + 3) ((fr : Int) * 10 + s) = zV F L must rc bal fr s ∧ (fr < L → zV F L must rc bal fr s < 1000000 → Wj (w + 4) ((fr : Int) * 10 + s) = (zNx F L must rc bal fr s : Nat) - fr)) → (11 - sh).toNat < n → RR MX4_reckon 2 0 Wj 55 [.ref w, zI (fr : Int), zI sh] [] (zEnd MX4_reckon Q X) X := by
    intro n
    induction n with
    | zero => intro sh Wj _ _ _ _ _ hm9; omega
    | succ n ih =>
      intro sh Wj k1 k2 hO hT hB hm9
      refine rr_iload_n (pc := 55) dX4_reckon_55 rfl ?_
      refine rr_aload_n (pc := 56) dX4_reckon_56 rfl ?_
      refine rr_getI (pc := 57) (ji := 7) dX4_reckon_57 fX4_47 hw.k hw.i7 rfl ?_
      rw [show Wj w 7 = bal by rw [hO w (by omega) (by omega)]; exact s4]
      refine rr_icmp_gt (pc := 60) (tgt := 80) dX4_reckon_60 (by decide) (by unfold zR; omega) (by unfold zR; omega) (fun h60 => ?_) (fun h60 => ?_)
      · exact hend Wj sh (by omega) hO hT hB
      · refine rr_iload_n (pc := 63) dX4_reckon_63 rfl ?_
        refine rr_iload_n (pc := 64) dX4_reckon_64 rfl ?_
        refine rr_icmp_gt (pc := 65) (tgt := 80) dX4_reckon_65 (by decide) (by unfold zR; omega) (by unfold zR; omega) (fun h65 => ?_) (fun h65 => ?_)
        · exact hend Wj sh (by omega) hO hT hB
        · refine rr_aload_n (pc := 68) dX4_reckon_68 rfl ?_
          refine rr_iload_n (pc := 69) dX4_reckon_69 rfl ?_
          refine rr_iload_n (pc := 70) dX4_reckon_70 rfl ?_
          obtain ⟨shn, rfl⟩ := Int.eq_ofNat_of_zero_le (show 0 ≤ sh by omega)
          refine rr_inv0 (M' := MX4_reckonFrom) (k := w) (As := [_, _]) (pc := 71) dX4_reckon_71 lX4_89 kX4_reckonFrom vX4_reckonFrom hw.k (by decide) rfl (by decide) (by decide) (Nat.le_of_ble_eq_true rfl) rfl (eX4_reckonFrom (fr := fr) (sh := shn) hw (hS.off (hO w (by omega) (by omega)) (hO (w + 2) (by omega) (by omega))) (by omega) (by omega) (zTb.rd (by exact hT) s8 (by omega)) (fun W1 g1 g2 g3 g4 => ?_))
          refine rr_iinc (pc := 74) dX4_reckon_74 rfl (by decide) ?_
          refine rr_goto (pc := 77) (tgt := 55) dX4_reckon_77 (by decide) ?_
          exact ih (shn + 1) W1 (by omega) (by omega) (fun k a1 a2 => (g1 k a1 a2).trans (hO k a1 a2)) (hT.keep (by omega) (by omega) (by omega) g2) (fun s a1 a2 => by
            by_cases q : s = shn
            · subst q; exact ⟨g3, fun _ => g4⟩
            · obtain ⟨q1, q2⟩ := g2 ((fr : Int) * 10 + s) (by omega)
              obtain ⟨q3, q4⟩ := hB s a1 (by omega)
              exact ⟨q1.trans q3, fun z1 z2 => q2.trans (q4 z1 z2)⟩) (by omega)
  exact loop _ 1 Wi (by omega) (by omega) hO hT (fun s a1 a2 => by omega) (Nat.lt_succ_self _)
set_option maxHeartbeats 1000000 in
theorem eX4_reckon {w : Nat} {W : zWd} {F : Nat → Int} {L must rc bal : Nat}  {Q : Option Value → zWd → Prop} {X : zX} (hw : zWy w) (hS : zWS W w F L must rc bal) (hq : ∀ W' : zWd, (∀ k : Nat, k ≠ w + 3 → k ≠ w + 4 → W' k = W k) → zTb W' w F L must rc bal 0 → Q none W') : Ev MX4_reckon 2 0 W [.ref w] Q X := by
  refine ev_of (ls := [.ref w, .null, .null]) (by decide) rfl (fun _ => rfl) (fun _ => Nat.le_of_ble_eq_true rfl) (Or.inl rfl) ?_
  obtain ⟨s1, s2, s3, s4, s5, s6, s7, s8, s9, s10, s11, s12, s13, s14, s15⟩ := id hS
  have loop : ∀ (n : Nat) (fr : Int) (Wi : zWd) (v2 : Value), -1 ≤ fr → fr < L → (∀ k : Nat, k ≠ w + 3 → k ≠ w + 4 → Wi k = W k) → zTb Wi w F L must rc bal (fr + 1) → (fr + 1).toNat < n → RR MX4_reckon 2 0 Wi 20 [.ref w, zI fr, v2] [] (zEnd MX4_reckon Q X) X := by
    intro n
    induction n with
    | zero => intro fr Wi v2 _ _ _ _ hm9; omega
    | succ n ih =>
      intro fr Wi v2 h1 h2 hO hT hm9
      refine rr_iload_n (pc := 20) dX4_reckon_20 rfl ?_
      refine rr_if_lt (pc := 21) (tgt := 86) dX4_reckon_21 (by decide) (by unfold zR; omega) (fun h21 => ?_) (fun h21 => ?_)
      · exact rr_retv (pc := 86) dX4_reckon_86 rfl rfl (hq Wi hO (fun k s a1 a2 a3 => hT k s (by omega) a2 a3))
      · obtain ⟨fr, rfl⟩ := Int.eq_ofNat_of_zero_le (show 0 ≤ fr by omega)
        have eF : Wi (w + 2) fr = F fr := by rw [hO (w + 2) (by omega) (by omega)]; exact s5 fr (by omega)
        have hFr := s8 fr (by omega)
        refine rr_aload_n (pc := 24) dX4_reckon_24 rfl ?_
        refine rr_getR (pc := 25) dX4_reckon_25 fX4_15 hw.k hw.r8 ?_
        refine rr_iload_n (pc := 28) dX4_reckon_28 rfl ?_
        refine rr_iald (pc := 29) dX4_reckon_29 hw.a2 (by omega) (by omega) ?_
        rw [eF]
        refine rr_iconst (n := 2) dX4_reckon_30 ?_
        refine rr_icmp_ne (pc := 31) (tgt := 43) dX4_reckon_31 (by decide) (by unfold zR; omega) (by unfold zR; omega) (fun h31 => ?_) (fun h31 => ?_)
        · refine rr_aload_n (pc := 43) dX4_reckon_43 rfl ?_
          refine rr_getR (pc := 44) dX4_reckon_44 fX4_15 hw.k hw.r8 ?_
          refine rr_iload_n (pc := 47) dX4_reckon_47 rfl ?_
          refine rr_iald (pc := 48) dX4_reckon_48 hw.a2 (by omega) (by omega) ?_
          rw [eF]
          refine rr_iconst (n := 1) dX4_reckon_49 ?_
          refine rr_icmp_ne (pc := 50) (tgt := 80) dX4_reckon_50 (by decide) (by unfold zR; omega) (by unfold zR; omega) (fun h50 => ?_) (fun h50 => ?_)
          · refine rr_iinc (pc := 80) dX4_reckon_80 rfl (by decide) ?_
            refine rr_goto (pc := 83) (tgt := 20) dX4_reckon_83 (by decide) ?_
            exact ih ((fr : Int) + -1) Wi _ (by omega) (by omega) hO (fun k s a1 a2 a3 => by
              by_cases q : k = fr
              · subst q
                rcases a3 with ⟨a3, -⟩ | ⟨a3, -⟩ <;> omega
              · exact hT k s (by omega) a2 a3) (by omega)
          · refine rr_iconst (n := 1) dX4_reckon_53 ?_
            refine rr_istore_n (pc := 54) dX4_reckon_54 (by decide) ?_
            refine z_reckon_in hw hS (by omega) (fun Wj sh hs hO hT hB => ?_) Wi hO hT
            refine rr_iinc (pc := 80) dX4_reckon_80 rfl (by decide) ?_
            refine rr_goto (pc := 83) (tgt := 20) dX4_reckon_83 (by decide) ?_
            exact ih ((fr : Int) + -1) Wj _ (by omega) (by omega) hO (fun k s a1 a2 a3 => by
              by_cases q : k = fr
              · subst q
                rcases a3 with ⟨a3, -⟩ | ⟨-, a3, a4, a5⟩
                · omega
                · exact hB s a3 (by omega)
              · exact hT k s (by omega) a2 a3) (by omega)
        · refine rr_aload_n (pc := 34) dX4_reckon_34 rfl ?_
          refine rr_iload_n (pc := 35) dX4_reckon_35 rfl ?_
          refine rr_iconst (n := 0) dX4_reckon_36 ?_
          refine rr_inv0 (M' := MX4_reckonFrom) (k := w) (As := [_, _]) (pc := 37) dX4_reckon_37 lX4_89 kX4_reckonFrom vX4_reckonFrom hw.k (by decide) rfl (by decide) (by decide) (Nat.le_of_ble_eq_true rfl) rfl (eX4_reckonFrom (fr := fr) (sh := 0) hw (hS.off (hO w (by omega) (by omega)) (hO (w + 2) (by omega) (by omega))) (by omega) (by omega) (zTb.rd (by exact hT) s8 (by omega)) (fun W1 g1 g2 g3 g4 => ?_))
          refine rr_goto (pc := 40) (tgt := 80) dX4_reckon_40 (by decide) ?_
          refine rr_iinc (pc := 80) dX4_reckon_80 rfl (by decide) ?_
          refine rr_goto (pc := 83) (tgt := 20) dX4_reckon_83 (by decide) ?_
          exact ih ((fr : Int) + -1) W1 _ (by omega) (by omega) (fun k a1 a2 => (g1 k a1 a2).trans (hO k a1 a2)) (fun k s a1 a2 a3 => by
            by_cases q : k = fr
            · subst q
              rcases a3 with ⟨-, rfl⟩ | ⟨a3, -⟩
              · exact ⟨g3, fun _ => g4⟩
              · omega
            · exact (hT.keep (by omega) (by omega) (by omega) g2) k s (by omega) a2 a3) (by omega)
  refine rr_aload_n (pc := 0) dX4_reckon_0 rfl ?_
  refine rr_getR (pc := 1) dX4_reckon_1 fX4_18 hw.k hw.r9 ?_
  refine rr_aload_n (pc := 4) dX4_reckon_4 rfl ?_
  refine rr_getI (pc := 5) (ji := 4) dX4_reckon_5 fX4_52 hw.k hw.i4 rfl ?_
  rw [s1]
  refine rr_bipush (n := (10)) dX4_reckon_8 ?_
  refine rr_imul (pc := 10) dX4_reckon_10 ?_
  refine rr_iconst (n := 0) dX4_reckon_11 ?_
  refine rr_iast (pc := 12) dX4_reckon_12 hw.a3 (by omega) (by omega) ?_
  refine rr_aload_n (pc := 13) dX4_reckon_13 rfl ?_
  refine rr_getI (pc := 14) (ji := 4) dX4_reckon_14 fX4_52 hw.k hw.i4 rfl ?_
  rw [zup_k (by omega), s1]
  refine rr_iconst (n := 1) dX4_reckon_17 ?_
  refine rr_isub (pc := 18) dX4_reckon_18 ?_
  refine rr_istore_n (pc := 19) dX4_reckon_19 (by decide) ?_
  exact loop _ ((L : Int) - 1) _ .null (by omega) (by omega) (fun k g1 g2 => zup_other k g1) (fun k s a1 a2 a3 => by
    have hk : k = L := by omega
    subst hk
    rcases a3 with ⟨-, rfl⟩ | ⟨a3, -⟩
    · exact ⟨by rw [show (((k : Nat) : Int) * 10 + ((0 : Nat) : Int)) = (k : Int) * 10 by omega, zup_s, zV_goal], fun z => by omega⟩
    · omega) (Nat.lt_succ_self _)
