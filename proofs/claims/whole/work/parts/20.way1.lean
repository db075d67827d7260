def zWS (W : zWd) (w : Nat) (F : Nat → Int) (L must rc bal : Nat) : Prop :=
  W w 4 = L ∧ W w 5 = must ∧ W w 6 = rc ∧ W w 7 = bal ∧ (∀ k : Nat, k ≤ L → W (w + 2) k = F k) ∧ F 0 = 2 ∧ F L = 2 ∧ (∀ k, k ≤ L → 0 ≤ F k ∧ F k ≤ 2) ∧ 3 ≤ L ∧ L ≤ 11 ∧ must ≤ L ∧ 1 ≤ rc ∧ rc ≤ 4 ∧ 1 ≤ bal ∧ bal ≤ 9
theorem zWS.off {W W' : zWd} {w : Nat} {F : Nat → Int} {L must rc bal : Nat} (h : zWS W w F L must rc bal) (e0 : W' w = W w) (e2 : W' (w + 2) = W (w + 2)) : zWS W' w F L must rc bal := by
  unfold zWS at *; rw [e0, e2]; exact h
def zRa (bk : Int) (L k : Int) : Int := if bk = 0 then k - 1 else L - 1 - k
def zRc (F : Nat → Int) (bal k s : Nat) : Prop := (F k = 2 ∧ s = 0) ∨ (F k = 1 ∧ 1 ≤ s ∧ s ≤ bal ∧ s ≤ k)
/-- beyond the last place nothing comes -/
theorem zMn_cut {f : Nat → Int} {m : Nat} : ∀ n, m ≤ n → (∀ j, m < j → j ≤ n → f j = 1000000) → zMn f n = zMn f m ∧ zAg f n = zAg f m := by
  intro n
  induction n with
  | zero => intro h _; rw [show m = 0 by omega]; exact ⟨rfl, rfl⟩
  | succ n ih =>
    intro h hf
    by_cases q : m = n + 1
    · subst q; exact ⟨rfl, rfl⟩
    · obtain ⟨h1, h2⟩ := ih (by omega) (fun j g1 g2 => hf j g1 (by omega))
      have h3 := hf (n + 1) (by omega) (by omega)
      have h4 := zMn_le f n
      show (if f (n + 1) < zMn f n then f (n + 1) else zMn f n) = zMn f m ∧ (if f (n + 1) < zMn f n then n + 1 else zAg f n) = zAg f m
      rw [if_neg (by omega), if_neg (by omega)]
      exact ⟨h1, h2⟩
theorem dX4_rowAt_0 : decode cX4_rowAt 0 = .ok (.aload_n 0, 1) := by decide +kernel
theorem dX4_rowAt_1 : decode cX4_rowAt 1 = .ok (.getfield 24, 3) := by decide +kernel
theorem dX4_rowAt_4 : decode cX4_rowAt 4 = .ok (.ifCond .eq 14, 3) := by decide +kernel
theorem dX4_rowAt_7 : decode cX4_rowAt 7 = .ok (.aload_n 0, 1) := by decide +kernel
theorem dX4_rowAt_8 : decode cX4_rowAt 8 = .ok (.getfield 52, 3) := by decide +kernel
theorem dX4_rowAt_11 : decode cX4_rowAt 11 = .ok (.iconst 1, 1) := by decide +kernel
theorem dX4_rowAt_12 : decode cX4_rowAt 12 = .ok (.isub, 1) := by decide +kernel
theorem dX4_rowAt_13 : decode cX4_rowAt 13 = .ok (.iload_n 1, 1) := by decide +kernel
theorem dX4_rowAt_14 : decode cX4_rowAt 14 = .ok (.isub, 1) := by decide +kernel
theorem dX4_rowAt_15 : decode cX4_rowAt 15 = .ok (.goto 6, 3) := by decide +kernel
theorem dX4_rowAt_18 : decode cX4_rowAt 18 = .ok (.iload_n 1, 1) := by decide +kernel
theorem dX4_rowAt_19 : decode cX4_rowAt 19 = .ok (.iconst 1, 1) := by decide +kernel
theorem dX4_rowAt_20 : decode cX4_rowAt 20 = .ok (.isub, 1) := by decide +kernel
theorem dX4_rowAt_21 : decode cX4_rowAt 21 = .ok (.ireturn, 1) := by decide +kernel
theorem eX4_rowAt {w : Nat} {W : zWd} {k : Int} {Q : Option Value → zWd → Prop} {X : zX} (hw : zWy w) (hb : zR (W w 0)) (hq : Q (some (zI (zRa (W w 0) (W w 4) k))) W) : Ev MX4_rowAt 0 0 W [.ref w, zI k] Q X := by
  refine ev_of (ls := [.ref w, zI k]) (by decide) rfl (fun _ => rfl) (fun _ => Nat.le_of_ble_eq_true rfl) (Or.inl rfl) ?_
  refine rr_aload_n (pc := 0) dX4_rowAt_0 rfl ?_
  refine rr_getI (pc := 1) (ji := 0) dX4_rowAt_1 fX4_24 hw.k hw.i0 rfl ?_
  refine rr_if_eq (pc := 4) (tgt := 18) dX4_rowAt_4 (by decide) hb (fun h4 => ?_) (fun h4 => ?_)
  · refine rr_iload_n (pc := 18) dX4_rowAt_18 rfl ?_
    refine rr_iconst (n := 1) dX4_rowAt_19 ?_
    refine rr_isub (pc := 20) dX4_rowAt_20 ?_
    exact rr_reti (pc := 21) dX4_rowAt_21 rfl rfl (by unfold zRa; rw [if_pos h4]) rfl (hq)
  · refine rr_aload_n (pc := 7) dX4_rowAt_7 rfl ?_
    refine rr_getI (pc := 8) (ji := 4) dX4_rowAt_8 fX4_52 hw.k hw.i4 rfl ?_
    refine rr_iconst (n := 1) dX4_rowAt_11 ?_
    refine rr_isub (pc := 12) dX4_rowAt_12 ?_
    refine rr_iload_n (pc := 13) dX4_rowAt_13 rfl ?_
    refine rr_isub (pc := 14) dX4_rowAt_14 ?_
    refine rr_goto (pc := 15) (tgt := 21) dX4_rowAt_15 (by decide) ?_
    exact rr_reti (pc := 21) dX4_rowAt_21 rfl rfl (by unfold zRa; rw [if_neg h4]) rfl (hq)
theorem dX4_reckonFrom_0 : decode cX4_reckonFrom 0 = .ok (.iload_n 1, 1) := by decide +kernel
theorem dX4_reckonFrom_1 : decode cX4_reckonFrom 1 = .ok (.bipush 10, 2) := by decide +kernel
theorem dX4_reckonFrom_3 : decode cX4_reckonFrom 3 = .ok (.imul, 1) := by decide +kernel
theorem dX4_reckonFrom_4 : decode cX4_reckonFrom 4 = .ok (.iload_n 2, 1) := by decide +kernel
theorem dX4_reckonFrom_5 : decode cX4_reckonFrom 5 = .ok (.iadd, 1) := by decide +kernel
theorem dX4_reckonFrom_6 : decode cX4_reckonFrom 6 = .ok (.istore_n 3, 1) := by decide +kernel
theorem dX4_reckonFrom_7 : decode cX4_reckonFrom 7 = .ok (.aload_n 0, 1) := by decide +kernel
theorem dX4_reckonFrom_8 : decode cX4_reckonFrom 8 = .ok (.getfield 18, 3) := by decide +kernel
theorem dX4_reckonFrom_11 : decode cX4_reckonFrom 11 = .ok (.iload_n 3, 1) := by decide +kernel
theorem dX4_reckonFrom_12 : decode cX4_reckonFrom 12 = .ok (.ldc 68, 2) := by decide +kernel
theorem dX4_reckonFrom_14 : decode cX4_reckonFrom 14 = .ok (.iastore, 1) := by decide +kernel
theorem dX4_reckonFrom_15 : decode cX4_reckonFrom 15 = .ok (.iload_n 1, 1) := by decide +kernel
theorem dX4_reckonFrom_16 : decode cX4_reckonFrom 16 = .ok (.aload_n 0, 1) := by decide +kernel
theorem dX4_reckonFrom_17 : decode cX4_reckonFrom 17 = .ok (.getfield 40, 3) := by decide +kernel
theorem dX4_reckonFrom_20 : decode cX4_reckonFrom 20 = .ok (.iadd, 1) := by decide +kernel
theorem dX4_reckonFrom_21 : decode cX4_reckonFrom 21 = .ok (.iload_n 1, 1) := by decide +kernel
theorem dX4_reckonFrom_22 : decode cX4_reckonFrom 22 = .ok (.aload_n 0, 1) := by decide +kernel
theorem dX4_reckonFrom_23 : decode cX4_reckonFrom 23 = .ok (.getfield 58, 3) := by decide +kernel
theorem dX4_reckonFrom_26 : decode cX4_reckonFrom 26 = .ok (.if_icmp .ge 10, 3) := by decide +kernel
theorem dX4_reckonFrom_29 : decode cX4_reckonFrom 29 = .ok (.aload_n 0, 1) := by decide +kernel
theorem dX4_reckonFrom_30 : decode cX4_reckonFrom 30 = .ok (.getfield 58, 3) := by decide +kernel
theorem dX4_reckonFrom_33 : decode cX4_reckonFrom 33 = .ok (.goto 7, 3) := by decide +kernel
theorem dX4_reckonFrom_36 : decode cX4_reckonFrom 36 = .ok (.aload_n 0, 1) := by decide +kernel
theorem dX4_reckonFrom_37 : decode cX4_reckonFrom 37 = .ok (.getfield 52, 3) := by decide +kernel
theorem dX4_reckonFrom_40 : decode cX4_reckonFrom 40 = .ok (.invokestatic 93, 3) := by decide +kernel
theorem dX4_reckonFrom_43 : decode cX4_reckonFrom 43 = .ok (.istore 4, 2) := by decide +kernel
theorem dX4_reckonFrom_45 : decode cX4_reckonFrom 45 = .ok (.iload_n 1, 1) := by decide +kernel
theorem dX4_reckonFrom_46 : decode cX4_reckonFrom 46 = .ok (.iconst 1, 1) := by decide +kernel
theorem dX4_reckonFrom_47 : decode cX4_reckonFrom 47 = .ok (.iadd, 1) := by decide +kernel
theorem dX4_reckonFrom_48 : decode cX4_reckonFrom 48 = .ok (.istore 5, 2) := by decide +kernel
theorem dX4_reckonFrom_50 : decode cX4_reckonFrom 50 = .ok (.iload 5, 2) := by decide +kernel
theorem dX4_reckonFrom_52 : decode cX4_reckonFrom 52 = .ok (.iload 4, 2) := by decide +kernel
theorem dX4_reckonFrom_54 : decode cX4_reckonFrom 54 = .ok (.if_icmp .gt 102, 3) := by decide +kernel
theorem dX4_reckonFrom_57 : decode cX4_reckonFrom 57 = .ok (.aload_n 0, 1) := by decide +kernel
theorem dX4_reckonFrom_58 : decode cX4_reckonFrom 58 = .ok (.getfield 15, 3) := by decide +kernel
theorem dX4_reckonFrom_61 : decode cX4_reckonFrom 61 = .ok (.iload 5, 2) := by decide +kernel
theorem dX4_reckonFrom_63 : decode cX4_reckonFrom 63 = .ok (.iaload, 1) := by decide +kernel
theorem dX4_reckonFrom_64 : decode cX4_reckonFrom 64 = .ok (.iconst 2, 1) := by decide +kernel
theorem dX4_reckonFrom_65 : decode cX4_reckonFrom 65 = .ok (.if_icmp .ne 7, 3) := by decide +kernel
theorem dX4_reckonFrom_68 : decode cX4_reckonFrom 68 = .ok (.iconst 0, 1) := by decide +kernel
theorem dX4_reckonFrom_69 : decode cX4_reckonFrom 69 = .ok (.goto 6, 3) := by decide +kernel
theorem dX4_reckonFrom_72 : decode cX4_reckonFrom 72 = .ok (.iload_n 2, 1) := by decide +kernel
theorem dX4_reckonFrom_73 : decode cX4_reckonFrom 73 = .ok (.iconst 1, 1) := by decide +kernel
theorem dX4_reckonFrom_74 : decode cX4_reckonFrom 74 = .ok (.iadd, 1) := by decide +kernel
theorem dX4_reckonFrom_75 : decode cX4_reckonFrom 75 = .ok (.istore 6, 2) := by decide +kernel
theorem dX4_reckonFrom_77 : decode cX4_reckonFrom 77 = .ok (.aload_n 0, 1) := by decide +kernel
theorem dX4_reckonFrom_78 : decode cX4_reckonFrom 78 = .ok (.getfield 15, 3) := by decide +kernel
theorem dX4_reckonFrom_81 : decode cX4_reckonFrom 81 = .ok (.iload 5, 2) := by decide +kernel
theorem dX4_reckonFrom_83 : decode cX4_reckonFrom 83 = .ok (.iaload, 1) := by decide +kernel
theorem dX4_reckonFrom_84 : decode cX4_reckonFrom 84 = .ok (.ifCond .eq 66, 3) := by decide +kernel
theorem dX4_reckonFrom_87 : decode cX4_reckonFrom 87 = .ok (.iload 6, 2) := by decide +kernel
theorem dX4_reckonFrom_89 : decode cX4_reckonFrom 89 = .ok (.aload_n 0, 1) := by decide +kernel
theorem dX4_reckonFrom_90 : decode cX4_reckonFrom 90 = .ok (.getfield 47, 3) := by decide +kernel
theorem dX4_reckonFrom_93 : decode cX4_reckonFrom 93 = .ok (.if_icmp .gt 57, 3) := by decide +kernel
theorem dX4_reckonFrom_96 : decode cX4_reckonFrom 96 = .ok (.iload 5, 2) := by decide +kernel
theorem dX4_reckonFrom_98 : decode cX4_reckonFrom 98 = .ok (.iload_n 1, 1) := by decide +kernel
theorem dX4_reckonFrom_99 : decode cX4_reckonFrom 99 = .ok (.isub, 1) := by decide +kernel
theorem dX4_reckonFrom_100 : decode cX4_reckonFrom 100 = .ok (.iload 5, 2) := by decide +kernel
theorem dX4_reckonFrom_102 : decode cX4_reckonFrom 102 = .ok (.iload_n 1, 1) := by decide +kernel
theorem dX4_reckonFrom_103 : decode cX4_reckonFrom 103 = .ok (.isub, 1) := by decide +kernel
theorem dX4_reckonFrom_104 : decode cX4_reckonFrom 104 = .ok (.imul, 1) := by decide +kernel
theorem dX4_reckonFrom_105 : decode cX4_reckonFrom 105 = .ok (.aload_n 0, 1) := by decide +kernel
theorem dX4_reckonFrom_106 : decode cX4_reckonFrom 106 = .ok (.getfield 18, 3) := by decide +kernel
theorem dX4_reckonFrom_109 : decode cX4_reckonFrom 109 = .ok (.iload 5, 2) := by decide +kernel
theorem dX4_reckonFrom_111 : decode cX4_reckonFrom 111 = .ok (.bipush 10, 2) := by decide +kernel
theorem dX4_reckonFrom_113 : decode cX4_reckonFrom 113 = .ok (.imul, 1) := by decide +kernel
theorem dX4_reckonFrom_114 : decode cX4_reckonFrom 114 = .ok (.iload 6, 2) := by decide +kernel
theorem dX4_reckonFrom_116 : decode cX4_reckonFrom 116 = .ok (.iadd, 1) := by decide +kernel
theorem dX4_reckonFrom_117 : decode cX4_reckonFrom 117 = .ok (.iaload, 1) := by decide +kernel
theorem dX4_reckonFrom_118 : decode cX4_reckonFrom 118 = .ok (.iadd, 1) := by decide +kernel
theorem dX4_reckonFrom_119 : decode cX4_reckonFrom 119 = .ok (.istore 7, 2) := by decide +kernel
theorem dX4_reckonFrom_121 : decode cX4_reckonFrom 121 = .ok (.iload 7, 2) := by decide +kernel
theorem dX4_reckonFrom_123 : decode cX4_reckonFrom 123 = .ok (.aload_n 0, 1) := by decide +kernel
theorem dX4_reckonFrom_124 : decode cX4_reckonFrom 124 = .ok (.getfield 18, 3) := by decide +kernel
theorem dX4_reckonFrom_127 : decode cX4_reckonFrom 127 = .ok (.iload_n 3, 1) := by decide +kernel
theorem dX4_reckonFrom_128 : decode cX4_reckonFrom 128 = .ok (.iaload, 1) := by decide +kernel
theorem dX4_reckonFrom_129 : decode cX4_reckonFrom 129 = .ok (.if_icmp .ge 21, 3) := by decide +kernel
theorem dX4_reckonFrom_132 : decode cX4_reckonFrom 132 = .ok (.aload_n 0, 1) := by decide +kernel
theorem dX4_reckonFrom_133 : decode cX4_reckonFrom 133 = .ok (.getfield 18, 3) := by decide +kernel
theorem dX4_reckonFrom_136 : decode cX4_reckonFrom 136 = .ok (.iload_n 3, 1) := by decide +kernel
theorem dX4_reckonFrom_137 : decode cX4_reckonFrom 137 = .ok (.iload 7, 2) := by decide +kernel
theorem dX4_reckonFrom_139 : decode cX4_reckonFrom 139 = .ok (.iastore, 1) := by decide +kernel
theorem dX4_reckonFrom_140 : decode cX4_reckonFrom 140 = .ok (.aload_n 0, 1) := by decide +kernel
theorem dX4_reckonFrom_141 : decode cX4_reckonFrom 141 = .ok (.getfield 21, 3) := by decide +kernel
theorem dX4_reckonFrom_144 : decode cX4_reckonFrom 144 = .ok (.iload_n 3, 1) := by decide +kernel
theorem dX4_reckonFrom_145 : decode cX4_reckonFrom 145 = .ok (.iload 5, 2) := by decide +kernel
theorem dX4_reckonFrom_147 : decode cX4_reckonFrom 147 = .ok (.iload_n 1, 1) := by decide +kernel
theorem dX4_reckonFrom_148 : decode cX4_reckonFrom 148 = .ok (.isub, 1) := by decide +kernel
theorem dX4_reckonFrom_149 : decode cX4_reckonFrom 149 = .ok (.iastore, 1) := by decide +kernel
theorem dX4_reckonFrom_150 : decode cX4_reckonFrom 150 = .ok (.iinc 5 1, 3) := by decide +kernel
theorem dX4_reckonFrom_153 : decode cX4_reckonFrom 153 = .ok (.goto (-103), 3) := by decide +kernel
theorem dX4_reckonFrom_156 : decode cX4_reckonFrom 156 = .ok (.return_, 1) := by decide +kernel
set_option maxHeartbeats 1000000 in
theorem eX4_reckonFrom {w : Nat} {W : zWd} {F : Nat → Int} {L must rc bal : Nat} {fr sh : Nat} {Q : Option Value → zWd → Prop} {X : zX} (hw : zWy w) (hS : zWS W w F L must rc bal) (hfr : fr < L) (hsh : sh ≤ 9) (hV : ∀ to : Nat, fr < to → zOk F L must bal fr to sh → W (w + 3) ((to : Int) * 10 + (zRn F to sh : Nat)) = zV F L must rc bal to (zRn F to sh)) (hq : ∀ W' : zWd, (∀ k : Nat, k ≠ w + 3 → k ≠ w + 4 → W' k = W k) → (∀ i : Int, i ≠ fr * 10 + sh → W' (w + 3) i = W (w + 3) i ∧ W' (w + 4) i = W (w + 4) i) → W' (w + 3) (fr * 10 + sh) = zV F L must rc bal fr sh → (zV F L must rc bal fr sh < 1000000 → W' (w + 4) (fr * 10 + sh) = (zNx F L must rc bal fr sh : Nat) - fr) → Q none W') : Ev MX4_reckonFrom 1 0 W [.ref w, zI (fr : Int), zI (sh : Int)] Q X := by
  refine ev_of (ls := [.ref w, zI (fr : Int), zI (sh : Int), .null, .null, .null, .null, .null]) (by decide) rfl (fun _ => rfl) (fun _ => Nat.le_of_ble_eq_true rfl) (Or.inl rfl) ?_
  obtain ⟨s1, s2, s3, s4, s5, s6, s7, s8, s9, s10, s11, s12, s13, s14, s15⟩ := id hS
  have hfr0 := s8 fr (by omega)
  obtain ⟨last, hlast⟩ : ∃ last : Int, last = if (if fr < must then (must : Int) else (L : Int)) < fr + rc then (if fr < must then (must : Int) else (L : Int)) else fr + rc := ⟨_, rfl⟩
  have hl1 : (fr : Int) < last ∧ last ≤ fr + rc ∧ last ≤ L ∧ (fr < must → last ≤ must) ∧ ∀ j : Nat, (last : Int) < fr + j → j ≤ rc → (L : Int) < fr + j ∨ (fr < must ∧ must < fr + j) := by
    rw [hlast]
    by_cases g : fr < must
    · rw [if_pos g]
      refine ⟨?_, ?_, ?_, ?_, fun j g1 g2 => ?_⟩
      all_goals (split at * <;> omega)
    · rw [if_neg g]
      refine ⟨?_, ?_, ?_, ?_, fun j g1 g2 => ?_⟩
      all_goals (split at * <;> omega)
  have hfin : ∀ (m : Nat) (Wi : zWd), (m : Int) = last - fr → (∀ k : Nat, k ≠ w + 3 → k ≠ w + 4 → Wi k = W k) → (∀ i : Int, i ≠ fr * 10 + sh → Wi (w + 3) i = W (w + 3) i ∧ Wi (w + 4) i = W (w + 4) i) → Wi (w + 3) (fr * 10 + sh) = zMn (fun j => zBy F L must bal (zV F L must rc bal) fr sh (fr + j)) m → (zMn (fun j => zBy F L must bal (zV F L must rc bal) fr sh (fr + j)) m < 1000000 → Wi (w + 4) (fr * 10 + sh) = (zAg (fun j => zBy F L must bal (zV F L must rc bal) fr sh (fr + j)) m : Nat)) → Q none Wi := by
    intro m Wi hm hO hI hM hA
    obtain ⟨c1, c2⟩ := zMn_cut (f := (fun j => zBy F L must bal (zV F L must rc bal) fr sh (fr + j))) (m := m) rc (by omega) (fun j g1 g2 => by
      show zBy F L must bal (zV F L must rc bal) fr sh (fr + j) = _
      rw [zBy, if_neg (fun z => by have := hl1.2.2.2.2 j (by omega) g2; have z1 := z.1; have z2 := z.2.1; omega)])
    refine hq Wi hO hI (by rw [zV_eq hfr, c1]; exact hM) (fun g => ?_)
    rw [zV_eq hfr, c1] at g
    rw [hA g, zNx, c2]; omega
  have loop : ∀ (n : Nat) (m : Nat) (to : Int) (Wi : zWd) (v6 v7 : Value), to = fr + 1 + m → (m : Int) ≤ last - fr → (∀ k : Nat, k ≠ w + 3 → k ≠ w + 4 → Wi k = W k) → (∀ i : Int, i ≠ fr * 10 + sh → Wi (w + 3) i = W (w + 3) i ∧ Wi (w + 4) i = W (w + 4) i) → Wi (w + 3) (fr * 10 + sh) = zMn (fun j => zBy F L must bal (zV F L must rc bal) fr sh (fr + j)) m → (zMn (fun j => zBy F L must bal (zV F L must rc bal) fr sh (fr + j)) m < 1000000 → Wi (w + 4) (fr * 10 + sh) = (zAg (fun j => zBy F L must bal (zV F L must rc bal) fr sh (fr + j)) m : Nat)) → (last - fr - m).toNat < n → RR MX4_reckonFrom 1 0 Wi 50 [.ref w, zI (fr : Int), zI (sh : Int), zI ((fr : Int) * 10 + sh), zI last, zI to, v6, v7] [] (zEnd MX4_reckonFrom Q X) X := by
    intro n
    induction n with
    | zero => intro m to Wi v6 v7 _ _ _ _ _ _ hm9; omega
    | succ n ih =>
      intro m to Wi v6 v7 hto hmr0 hO hI hM hA hm9
      refine rr_iload (pc := 50) dX4_reckonFrom_50 rfl ?_
      refine rr_iload (pc := 52) dX4_reckonFrom_52 rfl ?_
      refine rr_icmp_gt (pc := 54) (tgt := 156) dX4_reckonFrom_54 (by decide) (by unfold zR; omega) (by unfold zR; omega) (fun h54 => ?_) (fun h54 => ?_)
      · exact rr_retv (pc := 156) dX4_reckonFrom_156 rfl rfl (hfin m Wi (by omega) hO hI hM hA)
      · refine rr_aload_n (pc := 57) dX4_reckonFrom_57 rfl ?_
        refine rr_getR (pc := 58) dX4_reckonFrom_58 fX4_15 hw.k hw.r8 ?_
        refine rr_iload (pc := 61) dX4_reckonFrom_61 rfl ?_
        have eF : Wi (w + 2) to = F (fr + (m + 1)) := by
          rw [hO (w + 2) (by omega) (by omega)]
          have := s5 (fr + (m + 1)) (by omega)
          rw [show ((fr + (m + 1) : Nat) : Int) = to by omega] at this; exact this
        have hFr := s8 (fr + (m + 1)) (by omega)
        have e7 : Wi w 7 = bal := by rw [hO w (by omega) (by omega)]; exact s4
        refine rr_iald (pc := 63) dX4_reckonFrom_63 hw.a2 (by omega) (by omega) ?_
        rw [eF]
        refine rr_iconst (n := 2) dX4_reckonFrom_64 ?_
        refine rr_icmp_ne (pc := 65) (tgt := 72) dX4_reckonFrom_65 (by decide) (by unfold zR; omega) (by unfold zR; omega) (fun h65 => ?_) (fun h65 => ?_)
        · refine rr_iload_n (pc := 72) dX4_reckonFrom_72 rfl ?_
          refine rr_iconst (n := 1) dX4_reckonFrom_73 ?_
          refine rr_iadd (pc := 74) dX4_reckonFrom_74 ?_
          have hrn : zRn F (fr + (m + 1)) sh = sh + 1 := if_neg h65
          refine rr_istore (pc := 75) dX4_reckonFrom_75 (by decide) ?_
          refine rr_aload_n (pc := 77) dX4_reckonFrom_77 rfl ?_
          refine rr_getR (pc := 78) dX4_reckonFrom_78 fX4_15 hw.k hw.r8 ?_
          refine rr_iload (pc := 81) dX4_reckonFrom_81 rfl ?_
          refine rr_iald (pc := 83) dX4_reckonFrom_83 hw.a2 (by omega) (by omega) ?_
          rw [eF]
          refine rr_if_eq (pc := 84) (tgt := 150) dX4_reckonFrom_84 (by decide) (by unfold zR; omega) (fun h84 => ?_) (fun h84 => ?_)
          · have hok : ¬ zOk F L must bal fr (fr + (m + 1)) sh := fun z => by have := z.2.2.1; omega
            have hfv : zBy F L must bal (zV F L must rc bal) fr sh (fr + (m + 1)) = 1000000 := by
              rw [zBy, if_neg hok]
            refine rr_iinc (pc := 150) dX4_reckonFrom_150 rfl (by decide) ?_
            refine rr_goto (pc := 153) (tgt := 50) dX4_reckonFrom_153 (by decide) ?_
            have hle := zMn_le (fun j => zBy F L must bal (zV F L must rc bal) fr sh (fr + j)) m
            exact ih (m + 1) (to + 1) Wi _ _ (by omega) (by omega) hO hI (by rw [zMn, if_neg (by omega)]; exact hM) (by rw [zMn, zAg, if_neg (by omega), if_neg (by omega)]; exact hA) (by omega)
          · refine rr_iload (pc := 87) dX4_reckonFrom_87 rfl ?_
            refine rr_aload_n (pc := 89) dX4_reckonFrom_89 rfl ?_
            refine rr_getI (pc := 90) (ji := 7) dX4_reckonFrom_90 fX4_47 hw.k hw.i7 rfl ?_
            rw [e7]
            refine rr_icmp_gt (pc := 93) (tgt := 150) dX4_reckonFrom_93 (by decide) (by unfold zR; omega) (by unfold zR; omega) (fun h93 => ?_) (fun h93 => ?_)
            · have hok : ¬ zOk F L must bal fr (fr + (m + 1)) sh := fun z => by have := z.2.2.2; omega
              have hfv : zBy F L must bal (zV F L must rc bal) fr sh (fr + (m + 1)) = 1000000 := by
                rw [zBy, if_neg hok]
              refine rr_iinc (pc := 150) dX4_reckonFrom_150 rfl (by decide) ?_
              refine rr_goto (pc := 153) (tgt := 50) dX4_reckonFrom_153 (by decide) ?_
              have hle := zMn_le (fun j => zBy F L must bal (zV F L must rc bal) fr sh (fr + j)) m
              exact ih (m + 1) (to + 1) Wi _ _ (by omega) (by omega) hO hI (by rw [zMn, if_neg (by omega)]; exact hM) (by rw [zMn, zAg, if_neg (by omega), if_neg (by omega)]; exact hA) (by omega)
            · have hok : zOk F L must bal fr (fr + (m + 1)) sh := ⟨by omega, by omega, by omega, by omega⟩
              have hVt := hV (fr + (m + 1)) (by omega) hok
              rw [show ((fr + (m + 1) : Nat) : Int) = to by omega] at hVt
              have hfv : zBy F L must bal (zV F L must rc bal) fr sh (fr + (m + 1)) = (to - fr) * (to - fr) + zV F L must rc bal (fr + (m + 1)) (zRn F (fr + (m + 1)) sh) := by
                rw [zBy, if_pos hok, show ((fr + (m + 1) : Nat) : Int) = to by omega]
              have hVt' : Wi (w + 3) (to * 10 + ((sh : Int) + 1)) = zV F L must rc bal (fr + (m + 1)) (zRn F (fr + (m + 1)) sh) := by
                rw [← hVt, hrn]
                exact (hI _ (by omega)).1
              have hvr := zV_rng (F := F) (L := L) (must := must) (rc := rc) (bal := bal) (fr + (m + 1)) (zRn F (fr + (m + 1)) sh)
              have hsq := zSq (a := to - fr) (b := to - fr) (by omega) (by omega) rfl
              have hmr := zMn_le (fun j => zBy F L must bal (zV F L must rc bal) fr sh (fr + j)) m
              have hmn := zMn_nn (f := (fun j => zBy F L must bal (zV F L must rc bal) fr sh (fr + j))) m (fun j _ _ => zBy_nn (fun k run => (zV_rng k run).1))
              refine rr_iload (pc := 96) dX4_reckonFrom_96 rfl ?_
              refine rr_iload_n (pc := 98) dX4_reckonFrom_98 rfl ?_
              refine rr_isub (pc := 99) dX4_reckonFrom_99 ?_
              refine rr_iload (pc := 100) dX4_reckonFrom_100 rfl ?_
              refine rr_iload_n (pc := 102) dX4_reckonFrom_102 rfl ?_
              refine rr_isub (pc := 103) dX4_reckonFrom_103 ?_
              refine rr_imul (pc := 104) dX4_reckonFrom_104 ?_
              refine rr_aload_n (pc := 105) dX4_reckonFrom_105 rfl ?_
              refine rr_getR (pc := 106) dX4_reckonFrom_106 fX4_18 hw.k hw.r9 ?_
              refine rr_iload (pc := 109) dX4_reckonFrom_109 rfl ?_
              refine rr_bipush (n := (10)) dX4_reckonFrom_111 ?_
              refine rr_imul (pc := 113) dX4_reckonFrom_113 ?_
              refine rr_iload (pc := 114) dX4_reckonFrom_114 rfl ?_
              refine rr_iadd (pc := 116) dX4_reckonFrom_116 ?_
              refine rr_iald (pc := 117) dX4_reckonFrom_117 hw.a3 (by omega) (by omega) ?_
              refine rr_iadd (pc := 118) dX4_reckonFrom_118 ?_
              refine rr_istore (pc := 119) dX4_reckonFrom_119 (by decide) ?_
              refine rr_iload (pc := 121) dX4_reckonFrom_121 rfl ?_
              refine rr_aload_n (pc := 123) dX4_reckonFrom_123 rfl ?_
              refine rr_getR (pc := 124) dX4_reckonFrom_124 fX4_18 hw.k hw.r9 ?_
              refine rr_iload_n (pc := 127) dX4_reckonFrom_127 rfl ?_
              refine rr_iald (pc := 128) dX4_reckonFrom_128 hw.a3 (by omega) (by omega) ?_
              rw [hM]
              refine rr_icmp_ge (pc := 129) (tgt := 150) dX4_reckonFrom_129 (by decide) (by unfold zR; omega) (by unfold zR; omega) (fun h129 => ?_) (fun h129 => ?_)
              · refine rr_iinc (pc := 150) dX4_reckonFrom_150 rfl (by decide) ?_
                refine rr_goto (pc := 153) (tgt := 50) dX4_reckonFrom_153 (by decide) ?_
                have hle := zMn_le (fun j => zBy F L must bal (zV F L must rc bal) fr sh (fr + j)) m
                exact ih (m + 1) (to + 1) Wi _ _ (by omega) (by omega) hO hI (by rw [zMn, if_neg (by rw [hfv, ← hVt']; omega)]; exact hM) (by rw [zMn, zAg, if_neg (by rw [hfv, ← hVt']; omega), if_neg (by rw [hfv, ← hVt']; omega)]; exact hA) (by omega)
              · refine rr_aload_n (pc := 132) dX4_reckonFrom_132 rfl ?_
                refine rr_getR (pc := 133) dX4_reckonFrom_133 fX4_18 hw.k hw.r9 ?_
                refine rr_iload_n (pc := 136) dX4_reckonFrom_136 rfl ?_
                refine rr_iload (pc := 137) dX4_reckonFrom_137 rfl ?_
                refine rr_iast (pc := 139) dX4_reckonFrom_139 hw.a3 (by omega) (by omega) ?_
                refine rr_aload_n (pc := 140) dX4_reckonFrom_140 rfl ?_
                refine rr_getR (pc := 141) dX4_reckonFrom_141 fX4_21 hw.k hw.r10 ?_
                refine rr_iload_n (pc := 144) dX4_reckonFrom_144 rfl ?_
                refine rr_iload (pc := 145) dX4_reckonFrom_145 rfl ?_
                refine rr_iload_n (pc := 147) dX4_reckonFrom_147 rfl ?_
                refine rr_isub (pc := 148) dX4_reckonFrom_148 ?_
                refine rr_iast (pc := 149) dX4_reckonFrom_149 hw.a4 (by omega) (by omega) ?_
                refine rr_iinc (pc := 150) dX4_reckonFrom_150 rfl (by decide) ?_
                refine rr_goto (pc := 153) (tgt := 50) dX4_reckonFrom_153 (by decide) ?_
                exact ih (m + 1) (to + 1) _ _ _ (by omega) (by omega) (fun k g1 g2 => by rw [zup_other k g2, zup_other k g1]; exact hO k g1 g2) (fun i hi => by rw [zup_k (by omega), zup_i hi, zup_i hi, zup_k (by omega)]; exact hI i hi) (by rw [zMn, if_pos (by rw [hfv, ← hVt']; omega), zup_k (by omega), zup_s, hfv, ← hVt']) (fun _ => by rw [zAg, if_pos (by rw [hfv, ← hVt']; omega), zup_s]; omega) (by omega)
        · refine rr_iconst (n := 0) dX4_reckonFrom_68 ?_
          refine rr_goto (pc := 69) (tgt := 75) dX4_reckonFrom_69 (by decide) ?_
          have hrn : zRn F (fr + (m + 1)) sh = 0 := if_pos h65
          refine rr_istore (pc := 75) dX4_reckonFrom_75 (by decide) ?_
          refine rr_aload_n (pc := 77) dX4_reckonFrom_77 rfl ?_
          refine rr_getR (pc := 78) dX4_reckonFrom_78 fX4_15 hw.k hw.r8 ?_
          refine rr_iload (pc := 81) dX4_reckonFrom_81 rfl ?_
          refine rr_iald (pc := 83) dX4_reckonFrom_83 hw.a2 (by omega) (by omega) ?_
          rw [eF]
          refine rr_if_eq (pc := 84) (tgt := 150) dX4_reckonFrom_84 (by decide) (by unfold zR; omega) (fun h84 => ?_) (fun h84 => ?_)
          · have hok : ¬ zOk F L must bal fr (fr + (m + 1)) sh := fun z => by have := z.2.2.1; omega
            have hfv : zBy F L must bal (zV F L must rc bal) fr sh (fr + (m + 1)) = 1000000 := by
              rw [zBy, if_neg hok]
            refine rr_iinc (pc := 150) dX4_reckonFrom_150 rfl (by decide) ?_
            refine rr_goto (pc := 153) (tgt := 50) dX4_reckonFrom_153 (by decide) ?_
            have hle := zMn_le (fun j => zBy F L must bal (zV F L must rc bal) fr sh (fr + j)) m
            exact ih (m + 1) (to + 1) Wi _ _ (by omega) (by omega) hO hI (by rw [zMn, if_neg (by omega)]; exact hM) (by rw [zMn, zAg, if_neg (by omega), if_neg (by omega)]; exact hA) (by omega)
          · refine rr_iload (pc := 87) dX4_reckonFrom_87 rfl ?_
            refine rr_aload_n (pc := 89) dX4_reckonFrom_89 rfl ?_
            refine rr_getI (pc := 90) (ji := 7) dX4_reckonFrom_90 fX4_47 hw.k hw.i7 rfl ?_
            rw [e7]
            refine rr_icmp_gt (pc := 93) (tgt := 150) dX4_reckonFrom_93 (by decide) (by unfold zR; omega) (by unfold zR; omega) (fun h93 => ?_) (fun h93 => ?_)
            · have hok : ¬ zOk F L must bal fr (fr + (m + 1)) sh := fun z => by have := z.2.2.2; omega
              have hfv : zBy F L must bal (zV F L must rc bal) fr sh (fr + (m + 1)) = 1000000 := by
                rw [zBy, if_neg hok]
              refine rr_iinc (pc := 150) dX4_reckonFrom_150 rfl (by decide) ?_
              refine rr_goto (pc := 153) (tgt := 50) dX4_reckonFrom_153 (by decide) ?_
              have hle := zMn_le (fun j => zBy F L must bal (zV F L must rc bal) fr sh (fr + j)) m
              exact ih (m + 1) (to + 1) Wi _ _ (by omega) (by omega) hO hI (by rw [zMn, if_neg (by omega)]; exact hM) (by rw [zMn, zAg, if_neg (by omega), if_neg (by omega)]; exact hA) (by omega)
            · have hok : zOk F L must bal fr (fr + (m + 1)) sh := ⟨by omega, by omega, by omega, by omega⟩
              have hVt := hV (fr + (m + 1)) (by omega) hok
              rw [show ((fr + (m + 1) : Nat) : Int) = to by omega] at hVt
              have hfv : zBy F L must bal (zV F L must rc bal) fr sh (fr + (m + 1)) = (to - fr) * (to - fr) + zV F L must rc bal (fr + (m + 1)) (zRn F (fr + (m + 1)) sh) := by
                rw [zBy, if_pos hok, show ((fr + (m + 1) : Nat) : Int) = to by omega]
              have hVt' : Wi (w + 3) (to * 10 + 0) = zV F L must rc bal (fr + (m + 1)) (zRn F (fr + (m + 1)) sh) := by
                rw [← hVt, hrn]
                exact (hI _ (by omega)).1
              have hvr := zV_rng (F := F) (L := L) (must := must) (rc := rc) (bal := bal) (fr + (m + 1)) (zRn F (fr + (m + 1)) sh)
              have hsq := zSq (a := to - fr) (b := to - fr) (by omega) (by omega) rfl
              have hmr := zMn_le (fun j => zBy F L must bal (zV F L must rc bal) fr sh (fr + j)) m
              have hmn := zMn_nn (f := (fun j => zBy F L must bal (zV F L must rc bal) fr sh (fr + j))) m (fun j _ _ => zBy_nn (fun k run => (zV_rng k run).1))
              refine rr_iload (pc := 96) dX4_reckonFrom_96 rfl ?_
              refine rr_iload_n (pc := 98) dX4_reckonFrom_98 rfl ?_
              refine rr_isub (pc := 99) dX4_reckonFrom_99 ?_
              refine rr_iload (pc := 100) dX4_reckonFrom_100 rfl ?_
              refine rr_iload_n (pc := 102) dX4_reckonFrom_102 rfl ?_
              refine rr_isub (pc := 103) dX4_reckonFrom_103 ?_
              refine rr_imul (pc := 104) dX4_reckonFrom_104 ?_
              refine rr_aload_n (pc := 105) dX4_reckonFrom_105 rfl ?_
              refine rr_getR (pc := 106) dX4_reckonFrom_106 fX4_18 hw.k hw.r9 ?_
              refine rr_iload (pc := 109) dX4_reckonFrom_109 rfl ?_
              refine rr_bipush (n := (10)) dX4_reckonFrom_111 ?_
              refine rr_imul (pc := 113) dX4_reckonFrom_113 ?_
              refine rr_iload (pc := 114) dX4_reckonFrom_114 rfl ?_
              refine rr_iadd (pc := 116) dX4_reckonFrom_116 ?_
              refine rr_iald (pc := 117) dX4_reckonFrom_117 hw.a3 (by omega) (by omega) ?_
              refine rr_iadd (pc := 118) dX4_reckonFrom_118 ?_
              refine rr_istore (pc := 119) dX4_reckonFrom_119 (by decide) ?_
              refine rr_iload (pc := 121) dX4_reckonFrom_121 rfl ?_
              refine rr_aload_n (pc := 123) dX4_reckonFrom_123 rfl ?_
              refine rr_getR (pc := 124) dX4_reckonFrom_124 fX4_18 hw.k hw.r9 ?_
              refine rr_iload_n (pc := 127) dX4_reckonFrom_127 rfl ?_
              refine rr_iald (pc := 128) dX4_reckonFrom_128 hw.a3 (by omega) (by omega) ?_
              rw [hM]
              refine rr_icmp_ge (pc := 129) (tgt := 150) dX4_reckonFrom_129 (by decide) (by unfold zR; omega) (by unfold zR; omega) (fun h129 => ?_) (fun h129 => ?_)
              · refine rr_iinc (pc := 150) dX4_reckonFrom_150 rfl (by decide) ?_
                refine rr_goto (pc := 153) (tgt := 50) dX4_reckonFrom_153 (by decide) ?_
                have hle := zMn_le (fun j => zBy F L must bal (zV F L must rc bal) fr sh (fr + j)) m
                exact ih (m + 1) (to + 1) Wi _ _ (by omega) (by omega) hO hI (by rw [zMn, if_neg (by rw [hfv, ← hVt']; omega)]; exact hM) (by rw [zMn, zAg, if_neg (by rw [hfv, ← hVt']; omega), if_neg (by rw [hfv, ← hVt']; omega)]; exact hA) (by omega)
              · refine rr_aload_n (pc := 132) dX4_reckonFrom_132 rfl ?_
                refine rr_getR (pc := 133) dX4_reckonFrom_133 fX4_18 hw.k hw.r9 ?_
                refine rr_iload_n (pc := 136) dX4_reckonFrom_136 rfl ?_
                refine rr_iload (pc := 137) dX4_reckonFrom_137 rfl ?_
                refine rr_iast (pc := 139) dX4_reckonFrom_139 hw.a3 (by omega) (by omega) ?_
                refine rr_aload_n (pc := 140) dX4_reckonFrom_140 rfl ?_
                refine rr_getR (pc := 141) dX4_reckonFrom_141 fX4_21 hw.k hw.r10 ?_
                refine rr_iload_n (pc := 144) dX4_reckonFrom_144 rfl ?_
                refine rr_iload (pc := 145) dX4_reckonFrom_145 rfl ?_
                refine rr_iload_n (pc := 147) dX4_reckonFrom_147 rfl ?_
                refine rr_isub (pc := 148) dX4_reckonFrom_148 ?_
                refine rr_iast (pc := 149) dX4_reckonFrom_149 hw.a4 (by omega) (by omega) ?_
                refine rr_iinc (pc := 150) dX4_reckonFrom_150 rfl (by decide) ?_
                refine rr_goto (pc := 153) (tgt := 50) dX4_reckonFrom_153 (by decide) ?_
                exact ih (m + 1) (to + 1) _ _ _ (by omega) (by omega) (fun k g1 g2 => by rw [zup_other k g2, zup_other k g1]; exact hO k g1 g2) (fun i hi => by rw [zup_k (by omega), zup_i hi, zup_i hi, zup_k (by omega)]; exact hI i hi) (by rw [zMn, if_pos (by rw [hfv, ← hVt']; omega), zup_k (by omega), zup_s, hfv, ← hVt']) (fun _ => by rw [zAg, if_pos (by rw [hfv, ← hVt']; omega), zup_s]; omega) (by omega)
  refine rr_iload_n (pc := 0) dX4_reckonFrom_0 rfl ?_
  refine rr_bipush (n := (10)) dX4_reckonFrom_1 ?_
  refine rr_imul (pc := 3) dX4_reckonFrom_3 ?_
  refine rr_iload_n (pc := 4) dX4_reckonFrom_4 rfl ?_
  refine rr_iadd (pc := 5) dX4_reckonFrom_5 ?_
  refine rr_istore_n (pc := 6) dX4_reckonFrom_6 (by decide) ?_
  refine rr_aload_n (pc := 7) dX4_reckonFrom_7 rfl ?_
  refine rr_getR (pc := 8) dX4_reckonFrom_8 fX4_18 hw.k hw.r9 ?_
  refine rr_iload_n (pc := 11) dX4_reckonFrom_11 rfl ?_
  refine rr_ldc (pc := 12) dX4_reckonFrom_12 cX4_k68 ?_
  refine rr_iast (pc := 14) dX4_reckonFrom_14 hw.a3 (by omega) (by omega) ?_
  refine rr_iload_n (pc := 15) dX4_reckonFrom_15 rfl ?_
  refine rr_aload_n (pc := 16) dX4_reckonFrom_16 rfl ?_
  refine rr_getI (pc := 17) (ji := 6) dX4_reckonFrom_17 fX4_40 hw.k hw.i6 rfl ?_
  rw [zup_k (by omega), s3]
  refine rr_iadd (pc := 20) dX4_reckonFrom_20 ?_
  refine rr_iload_n (pc := 21) dX4_reckonFrom_21 rfl ?_
  refine rr_aload_n (pc := 22) dX4_reckonFrom_22 rfl ?_
  refine rr_getI (pc := 23) (ji := 5) dX4_reckonFrom_23 fX4_58 hw.k hw.i5 rfl ?_
  rw [zup_k (by omega), s2]
  refine rr_icmp_ge (pc := 26) (tgt := 36) dX4_reckonFrom_26 (by decide) (by unfold zR; omega) (by unfold zR; omega) (fun h26 => ?_) (fun h26 => ?_)
  · refine rr_aload_n (pc := 36) dX4_reckonFrom_36 rfl ?_
    refine rr_getI (pc := 37) (ji := 4) dX4_reckonFrom_37 fX4_52 hw.k hw.i4 rfl ?_
    rw [zup_k (by omega), s1]
    refine rr_min (pc := 40) dX4_reckonFrom_40 lX4_93 z_mmin (by unfold zR; omega) (by unfold zR; omega) (by decide) (Nat.le_of_ble_eq_true rfl) ?_
    rw [show (if (L : Int) < fr + rc then (L : Int) else fr + rc) = last by rw [hlast]; simp only [if_neg (show ¬ fr < must by omega)]]
    refine rr_istore (pc := 43) dX4_reckonFrom_43 (by decide) ?_
    refine rr_iload_n (pc := 45) dX4_reckonFrom_45 rfl ?_
    refine rr_iconst (n := 1) dX4_reckonFrom_46 ?_
    refine rr_iadd (pc := 47) dX4_reckonFrom_47 ?_
    refine rr_istore (pc := 48) dX4_reckonFrom_48 (by decide) ?_
    exact loop _ 0 (fr + 1) _ .null .null (by omega) (by omega) (fun k g1 g2 => zup_other k g1) (fun i hi => ⟨zup_i hi, zup_k (by omega)⟩) (by rw [zup_s]; rfl) (fun g => absurd g (by show ¬ (1000000 : Int) < 1000000; omega)) (Nat.lt_succ_self _)
  · refine rr_aload_n (pc := 29) dX4_reckonFrom_29 rfl ?_
    refine rr_getI (pc := 30) (ji := 5) dX4_reckonFrom_30 fX4_58 hw.k hw.i5 rfl ?_
    rw [zup_k (by omega), s2]
    refine rr_goto (pc := 33) (tgt := 40) dX4_reckonFrom_33 (by decide) ?_
    refine rr_min (pc := 40) dX4_reckonFrom_40 lX4_93 z_mmin (by unfold zR; omega) (by unfold zR; omega) (by decide) (Nat.le_of_ble_eq_true rfl) ?_
    rw [show (if (must : Int) < fr + rc then (must : Int) else fr + rc) = last by rw [hlast]; simp only [if_pos (show fr < must by omega)]]
    refine rr_istore (pc := 43) dX4_reckonFrom_43 (by decide) ?_
    refine rr_iload_n (pc := 45) dX4_reckonFrom_45 rfl ?_
    refine rr_iconst (n := 1) dX4_reckonFrom_46 ?_
    refine rr_iadd (pc := 47) dX4_reckonFrom_47 ?_
    refine rr_istore (pc := 48) dX4_reckonFrom_48 (by decide) ?_
    exact loop _ 0 (fr + 1) _ .null .null (by omega) (by omega) (fun k g1 g2 => zup_other k g1) (fun i hi => ⟨zup_i hi, zup_k (by omega)⟩) (by rw [zup_s]; rfl) (fun g => absurd g (by show ¬ (1000000 : Int) < 1000000; omega)) (Nat.lt_succ_self _)
