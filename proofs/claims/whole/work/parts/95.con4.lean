theorem zhz {W : zWd} {N n0 c k j : Nat} (e1 : zov N = k) (e2 : zpr k = (n0, j)) (e3 : zov n0 = c) (h : W c (j : Int) = 0) : W (zov (zpr (zov N)).1) ((zpr (zov N)).2 : Nat) = 0 := by
  rw [e1, e2]
  show W (zov n0) (j : Int) = 0
  rw [e3]
  exact h
/-- m rows of a court are made -/
def zSp (W₀ : zWd) (c m : Nat) (W : zWd) : Prop := (∀ k : Nat, (k < c ∨ c + m < k) → W k = W₀ k) ∧ (∀ j : Int, (j < 8 ∨ 8 + m ≤ j) → W c j = 0) ∧ (∀ j : Int, 8 ≤ j → j < 8 + m → W c j = 1) ∧ ∀ r : Nat, 1 ≤ r → r ≤ m → W (c + r) = fun _ => 0
theorem zSp.s {W₀ W : zWd} {c m : Nat} (h : zSp W₀ c m W) : zSp W₀ c (m + 1) (zup (znew W (c + (m + 1))) c (8 + m) 1) := by
  obtain ⟨h1, h2, h3, h4⟩ := h
  refine ⟨fun k hk => ?_, fun j hj => ?_, fun j g0 g1 => ?_, fun r g0 g1 => ?_⟩
  · rw [zup_other k (by omega), znew_o (by omega)]; exact h1 k (by omega)
  · rw [zup_i (by omega), znew_o (by omega)]; exact h2 j (by omega)
  · by_cases e : j = 8 + m
    · rw [e]; exact zup_s
    · rw [zup_i e, znew_o (by omega)]; exact h3 j g0 (by omega)
  · rw [zup_other _ (by omega)]
    by_cases e : r = m + 1
    · subst e; funext i; exact znew_s
    · rw [znew_o (by omega)]; exact h4 r g0 (by omega)
theorem dX0_init_0 : decode cX0_init 0 = .ok (.aload_n 0, 1) := by decide +kernel
theorem dX0_init_1 : decode cX0_init 1 = .ok (.invokespecial 3, 3) := by decide +kernel
theorem dX0_init_4 : decode cX0_init 4 = .ok (.aload_n 0, 1) := by decide +kernel
theorem dX0_init_5 : decode cX0_init 5 = .ok (.bipush 11, 2) := by decide +kernel
theorem dX0_init_7 : decode cX0_init 7 = .ok (.newarray .int, 2) := by decide +kernel
theorem dX0_init_9 : decode cX0_init 9 = .ok (.putfield 9, 3) := by decide +kernel
theorem dX0_init_12 : decode cX0_init 12 = .ok (.aload_n 0, 1) := by decide +kernel
theorem dX0_init_13 : decode cX0_init 13 = .ok (.bipush 21, 2) := by decide +kernel
theorem dX0_init_15 : decode cX0_init 15 = .ok (.newarray .int, 2) := by decide +kernel
theorem dX0_init_17 : decode cX0_init 17 = .ok (.putfield 15, 3) := by decide +kernel
theorem dX0_init_20 : decode cX0_init 20 = .ok (.aload_n 0, 1) := by decide +kernel
theorem dX0_init_21 : decode cX0_init 21 = .ok (.bipush 21, 2) := by decide +kernel
theorem dX0_init_23 : decode cX0_init 23 = .ok (.newarray .int, 2) := by decide +kernel
theorem dX0_init_25 : decode cX0_init 25 = .ok (.putfield 18, 3) := by decide +kernel
theorem dX0_init_28 : decode cX0_init 28 = .ok (.aload_n 0, 1) := by decide +kernel
theorem dX0_init_29 : decode cX0_init 29 = .ok (.bipush 21, 2) := by decide +kernel
theorem dX0_init_31 : decode cX0_init 31 = .ok (.newarray .int, 2) := by decide +kernel
theorem dX0_init_33 : decode cX0_init 33 = .ok (.putfield 21, 3) := by decide +kernel
theorem dX0_init_36 : decode cX0_init 36 = .ok (.aload_n 0, 1) := by decide +kernel
theorem dX0_init_37 : decode cX0_init 37 = .ok (.bipush 60, 2) := by decide +kernel
theorem dX0_init_39 : decode cX0_init 39 = .ok (.newarray .int, 2) := by decide +kernel
theorem dX0_init_41 : decode cX0_init 41 = .ok (.putfield 24, 3) := by decide +kernel
theorem dX0_init_44 : decode cX0_init 44 = .ok (.aload_n 0, 1) := by decide +kernel
theorem dX0_init_45 : decode cX0_init 45 = .ok (.bipush 48, 2) := by decide +kernel
theorem dX0_init_47 : decode cX0_init 47 = .ok (.newarray .byte, 2) := by decide +kernel
theorem dX0_init_49 : decode cX0_init 49 = .ok (.putfield 27, 3) := by decide +kernel
theorem dX0_init_52 : decode cX0_init 52 = .ok (.aload_n 0, 1) := by decide +kernel
theorem dX0_init_53 : decode cX0_init 53 = .ok (.bipush 6, 2) := by decide +kernel
theorem dX0_init_55 : decode cX0_init 55 = .ok (.newarray .int, 2) := by decide +kernel
theorem dX0_init_57 : decode cX0_init 57 = .ok (.putfield 31, 3) := by decide +kernel
theorem dX0_init_60 : decode cX0_init 60 = .ok (.aload_n 0, 1) := by decide +kernel
theorem dX0_init_61 : decode cX0_init 61 = .ok (.invokevirtual 34, 3) := by decide +kernel
theorem dX0_init_64 : decode cX0_init 64 = .ok (.return_, 1) := by decide +kernel
theorem nX0_init {n0 c : Nat} {W : zWd} {Q : zWd → Prop} (hc : zCt c) (hn : zCn n0 c) (h0 : ∀ j : Int, W c j = 0) (hq : ∀ W' : zWd, (∀ k : Nat, (k < c ∨ c + 8 ≤ k) → W' k = W k) → zC0 W' c → Q W') : EvN MX0_init 2 7 (n0 + 1) W [.ref c] Q := by
  refine ev_ofL (ls := [.ref c]) (by decide) rfl (fun _ => rfl) (fun _ => Nat.le_of_ble_eq_true rfl) ?_
  have hle := hn.le
  refine rl_aload_n (pc := 0) dX0_init_0 rfl ?_
  refine rl_obj (pc := 1) dX0_init_1 (zWs_in 163 (by decide +kernel) rfl) (zWs_in 156 (by decide +kernel) rfl) (zWs_in 157 (by decide +kernel) rfl) (by decide) (by decide) ?_
  have sp0 : zSp W c 0 W := ⟨fun _ _ => rfl, fun j _ => h0 j, fun j g0 g1 => by omega, fun r g0 g1 => by omega⟩
  refine rl_aload_n (pc := 4) dX0_init_4 rfl ?_
  refine rl_bipush (n := (11)) dX0_init_5 ?_
  refine rl_newa_i (pc := 7) (n := 11) dX0_init_7 (zWs_in 241 (by decide +kernel) rfl) (show zk (zov (n0 + 1)) = _ by rw [hn.o1]; exact hc.a1) (by omega) (Or.inl (zhz hn.o1 hn.q1 hn.o0 (sp0.2.1 8 (by omega)))) (zLv.r (j := n0) (by omega) hn.o0 (zLv.nil)) (zLv.r (j := n0) (by omega) hn.o0 (zLv.nil)) (by decide) ?_
  rw [show zov (n0 + 1) = c + 1 from hn.o1]
  refine rl_putF (pc := 9) (j := 8) (n := n0) (x := 1) dX0_init_9 (C := RX0) (T := TX0) (ci := 0) rfl (by decide) (by decide) uwX0 tyX0_ok nmX0 (zWs_in 194 (by decide +kernel) rfl) rfl rfl rfl (ty := .array .int) (by decide +kernel) (fun _ => rfl) (fun _ => rfl) hc.k (by omega) (by omega) hn.o0 (zfw_r hc.r8) ?_
  refine rl_eqW (W₁ := zup (znew W (c + (0 + 1))) c (8 + (0 : Nat)) 1) rfl ?_
  have sp1 := sp0.s
  generalize zup (znew W (c + (0 + 1))) c (8 + (0 : Nat)) 1 = W1 at sp1 ⊢
  refine rl_aload_n (pc := 12) dX0_init_12 rfl ?_
  refine rl_bipush (n := (21)) dX0_init_13 ?_
  refine rl_newa_i (pc := 15) (n := 21) dX0_init_15 (zWs_in 241 (by decide +kernel) rfl) (show zk (zov (n0 + 2)) = _ by rw [hn.o2]; exact hc.a2) (by omega) (Or.inl (zhz hn.o2 hn.q2 hn.o0 (sp1.2.1 9 (by omega)))) (zLv.r (j := n0) (by omega) hn.o0 (zLv.nil)) (zLv.r (j := n0) (by omega) hn.o0 (zLv.nil)) (by decide) ?_
  rw [show zov (n0 + 1 + 1) = c + 2 from hn.o2]
  refine rl_putF (pc := 17) (j := 9) (n := n0) (x := 1) dX0_init_17 (C := RX0) (T := TX0) (ci := 0) rfl (by decide) (by decide) uwX0 tyX0_ok nmX0 (zWs_in 196 (by decide +kernel) rfl) rfl rfl rfl (ty := .array .int) (by decide +kernel) (fun _ => rfl) (fun _ => rfl) hc.k (by omega) (by omega) hn.o0 (zfw_r hc.r9) ?_
  refine rl_eqW (W₁ := zup (znew W1 (c + (1 + 1))) c (8 + (1 : Nat)) 1) rfl ?_
  have sp2 := sp1.s
  generalize zup (znew W1 (c + (1 + 1))) c (8 + (1 : Nat)) 1 = W2 at sp2 ⊢
  refine rl_aload_n (pc := 20) dX0_init_20 rfl ?_
  refine rl_bipush (n := (21)) dX0_init_21 ?_
  refine rl_newa_i (pc := 23) (n := 21) dX0_init_23 (zWs_in 241 (by decide +kernel) rfl) (show zk (zov (n0 + 3)) = _ by rw [hn.o3]; exact hc.a3) (by omega) (Or.inl (zhz hn.o3 hn.q3 hn.o0 (sp2.2.1 10 (by omega)))) (zLv.r (j := n0) (by omega) hn.o0 (zLv.nil)) (zLv.r (j := n0) (by omega) hn.o0 (zLv.nil)) (by decide) ?_
  rw [show zov (n0 + 1 + 1 + 1) = c + 3 from hn.o3]
  refine rl_putF (pc := 25) (j := 10) (n := n0) (x := 1) dX0_init_25 (C := RX0) (T := TX0) (ci := 0) rfl (by decide) (by decide) uwX0 tyX0_ok nmX0 (zWs_in 199 (by decide +kernel) rfl) rfl rfl rfl (ty := .array .int) (by decide +kernel) (fun _ => rfl) (fun _ => rfl) hc.k (by omega) (by omega) hn.o0 (zfw_r hc.r10) ?_
  refine rl_eqW (W₁ := zup (znew W2 (c + (2 + 1))) c (8 + (2 : Nat)) 1) rfl ?_
  have sp3 := sp2.s
  generalize zup (znew W2 (c + (2 + 1))) c (8 + (2 : Nat)) 1 = W3 at sp3 ⊢
  refine rl_aload_n (pc := 28) dX0_init_28 rfl ?_
  refine rl_bipush (n := (21)) dX0_init_29 ?_
  refine rl_newa_i (pc := 31) (n := 21) dX0_init_31 (zWs_in 241 (by decide +kernel) rfl) (show zk (zov (n0 + 4)) = _ by rw [hn.o4]; exact hc.a4) (by omega) (Or.inl (zhz hn.o4 hn.q4 hn.o0 (sp3.2.1 11 (by omega)))) (zLv.r (j := n0) (by omega) hn.o0 (zLv.nil)) (zLv.r (j := n0) (by omega) hn.o0 (zLv.nil)) (by decide) ?_
  rw [show zov (n0 + 1 + 1 + 1 + 1) = c + 4 from hn.o4]
  refine rl_putF (pc := 33) (j := 11) (n := n0) (x := 1) dX0_init_33 (C := RX0) (T := TX0) (ci := 0) rfl (by decide) (by decide) uwX0 tyX0_ok nmX0 (zWs_in 203 (by decide +kernel) rfl) rfl rfl rfl (ty := .array .int) (by decide +kernel) (fun _ => rfl) (fun _ => rfl) hc.k (by omega) (by omega) hn.o0 (zfw_r hc.r11) ?_
  refine rl_eqW (W₁ := zup (znew W3 (c + (3 + 1))) c (8 + (3 : Nat)) 1) rfl ?_
  have sp4 := sp3.s
  generalize zup (znew W3 (c + (3 + 1))) c (8 + (3 : Nat)) 1 = W4 at sp4 ⊢
  refine rl_aload_n (pc := 36) dX0_init_36 rfl ?_
  refine rl_bipush (n := (60)) dX0_init_37 ?_
  refine rl_newa_i (pc := 39) (n := 60) dX0_init_39 (zWs_in 241 (by decide +kernel) rfl) (show zk (zov (n0 + 5)) = _ by rw [hn.o5]; exact hc.a5) (by omega) (Or.inl (zhz hn.o5 hn.q5 hn.o0 (sp4.2.1 12 (by omega)))) (zLv.r (j := n0) (by omega) hn.o0 (zLv.nil)) (zLv.r (j := n0) (by omega) hn.o0 (zLv.nil)) (by decide) ?_
  rw [show zov (n0 + 1 + 1 + 1 + 1 + 1) = c + 5 from hn.o5]
  refine rl_putF (pc := 41) (j := 12) (n := n0) (x := 1) dX0_init_41 (C := RX0) (T := TX0) (ci := 0) rfl (by decide) (by decide) uwX0 tyX0_ok nmX0 (zWs_in 205 (by decide +kernel) rfl) rfl rfl rfl (ty := .array .int) (by decide +kernel) (fun _ => rfl) (fun _ => rfl) hc.k (by omega) (by omega) hn.o0 (zfw_r hc.r12) ?_
  refine rl_eqW (W₁ := zup (znew W4 (c + (4 + 1))) c (8 + (4 : Nat)) 1) rfl ?_
  have sp5 := sp4.s
  generalize zup (znew W4 (c + (4 + 1))) c (8 + (4 : Nat)) 1 = W5 at sp5 ⊢
  refine rl_aload_n (pc := 44) dX0_init_44 rfl ?_
  refine rl_bipush (n := (48)) dX0_init_45 ?_
  refine rl_newa_b (pc := 47) (n := 48) dX0_init_47 (zWs_in 242 (by decide +kernel) rfl) (show zk (zov (n0 + 6)) = _ by rw [hn.o6]; exact hc.a6) (by omega) (Or.inl (zhz hn.o6 hn.q6 hn.o0 (sp5.2.1 13 (by omega)))) (zLv.r (j := n0) (by omega) hn.o0 (zLv.nil)) (zLv.r (j := n0) (by omega) hn.o0 (zLv.nil)) (by decide) ?_
  rw [show zov (n0 + 1 + 1 + 1 + 1 + 1 + 1) = c + 6 from hn.o6]
  refine rl_putF (pc := 49) (j := 13) (n := n0) (x := 1) dX0_init_49 (C := RX0) (T := TX0) (ci := 0) rfl (by decide) (by decide) uwX0 tyX0_ok nmX0 (zWs_in 206 (by decide +kernel) rfl) rfl rfl rfl (ty := .array .byte) (by decide +kernel) (fun _ => rfl) (fun _ => rfl) hc.k (by omega) (by omega) hn.o0 (zfw_r hc.r13) ?_
  refine rl_eqW (W₁ := zup (znew W5 (c + (5 + 1))) c (8 + (5 : Nat)) 1) rfl ?_
  have sp6 := sp5.s
  generalize zup (znew W5 (c + (5 + 1))) c (8 + (5 : Nat)) 1 = W6 at sp6 ⊢
  refine rl_aload_n (pc := 52) dX0_init_52 rfl ?_
  refine rl_bipush (n := (6)) dX0_init_53 ?_
  refine rl_newa_i (pc := 55) (n := 6) dX0_init_55 (zWs_in 241 (by decide +kernel) rfl) (show zk (zov (n0 + 7)) = _ by rw [hn.o7]; exact hc.a7) (by omega) (Or.inl (zhz hn.o7 hn.q7 hn.o0 (sp6.2.1 14 (by omega)))) (zLv.r (j := n0) (by omega) hn.o0 (zLv.nil)) (zLv.r (j := n0) (by omega) hn.o0 (zLv.nil)) (by decide) ?_
  rw [show zov (n0 + 1 + 1 + 1 + 1 + 1 + 1 + 1) = c + 7 from hn.o7]
  refine rl_putF (pc := 57) (j := 14) (n := n0) (x := 1) dX0_init_57 (C := RX0) (T := TX0) (ci := 0) rfl (by decide) (by decide) uwX0 tyX0_ok nmX0 (zWs_in 208 (by decide +kernel) rfl) rfl rfl rfl (ty := .array .int) (by decide +kernel) (fun _ => rfl) (fun _ => rfl) hc.k (by omega) (by omega) hn.o0 (zfw_r hc.r14) ?_
  refine rl_eqW (W₁ := zup (znew W6 (c + (6 + 1))) c (8 + (6 : Nat)) 1) rfl ?_
  have sp7 := sp6.s
  generalize zup (znew W6 (c + (6 + 1))) c (8 + (6 : Nat)) 1 = W7 at sp7 ⊢
  refine rl_aload_n (pc := 60) dX0_init_60 rfl ?_
  refine rl_inv (M' := MX0_wipe) (d' := 0) (w' := 0) (k := c) (ik := n0) (As := []) (pc := 61) dX0_init_61 (zWs_in 164 (by decide +kernel) rfl) kX0_wipe vX0_wipe hc.k (by decide) (by omega) hn.o0 rfl (by decide) (by omega) (by decide) (Nat.le_of_ble_eq_true rfl) rfl (zLv.r (j := n0) (by omega) hn.o0 (zLv.nil)) (zLv.nil) (nX0_wipe hc hn (by omega) (by omega) (fun j g0 g1 => sp7.2.2.1 j g0 (by omega)) (fun j g0 g1 => sp7.2.1 j (by omega)) (fun m g0 g1 => sp7.2.2.2 m g0 g1) (fun W8 o8 z8 => ?_))
  exact rl_ret (pc := 64) dX0_init_64 rfl (hq W8 (fun k hk => (o8 k (by omega) (by omega) (by omega)).trans (sp7.1 k (by omega))) z8)
theorem nX0_addRow {n0 c N : Nat} {W : zWd} {r q : Int} {Q : zWd → Prop} (hc : zCt c) (hn : zCn n0 c) (hN : N ≤ 129) (hm : n0 + 8 ≤ N) (hs : ∀ j : Int, 8 ≤ j → j < 15 → W c j = 1) (hr : W c 0 = r) (hq1 : W c 1 = q) (r0 : 0 ≤ r) (r9 : r < 10) (q0 : 0 ≤ q) (q9 : q < 20) (hq : Q (zup (zup (zup (zup W c 1 (q + 1)) (c + 2) (q + 1) r) c 0 (r + 1)) (c + 1) (r + 1) (q + 1 + 1))) : EvN MX0_addRow 0 0 (N) W [.ref c, zI 1] Q := by
  refine ev_ofL (ls := [.ref c, zI 1, .null]) (by decide) rfl (fun _ => rfl) (fun _ => Nat.le_of_ble_eq_true rfl) ?_
  refine rl_aload_n (pc := 0) dX0_addRow_0 rfl ?_
  refine rl_getI (pc := 1) (ji := 0) (n := n0) dX0_addRow_1 fX0_37 hc.k (by omega) hn.o0 hc.i0 rfl ?_
  rw [show W c 0 = r from hr]
  refine rl_bipush (n := (10)) dX0_addRow_4 ?_
  refine rl_icmp_ge (pc := 6) (tgt := 20) dX0_addRow_6 (by decide) (by unfold zR; omega) (by unfold zR; omega)  (fun h6 => ?_) (fun h6 => ?_)
  · exact absurd h6 (by omega)
  · refine rl_aload_n (pc := 9) dX0_addRow_9 rfl ?_
    refine rl_getI (pc := 10) (ji := 1) (n := n0) dX0_addRow_10 fX0_41 hc.k (by omega) hn.o0 hc.i1 rfl ?_
    rw [show W c 1 = q from hq1]
    refine rl_iload_n (pc := 13) dX0_addRow_13 rfl ?_
    refine rl_iadd (pc := 14) dX0_addRow_14 ?_
    refine rl_bipush (n := (20)) dX0_addRow_15 ?_
    refine rl_icmp_le (pc := 17) (tgt := 21) dX0_addRow_17 (by decide) (by unfold zR; omega) (by unfold zR; omega)  (fun h17 => ?_) (fun h17 => ?_)
    · refine rl_iconst (n := 0) dX0_addRow_21 ?_
      refine rl_istore_n (pc := 22) dX0_addRow_22 (by decide) ?_
      refine rl_iload_n (pc := 23) dX0_addRow_23 rfl ?_
      refine rl_iload_n (pc := 24) dX0_addRow_24 rfl ?_
      refine rl_icmp_ge (pc := 25) (tgt := 57) dX0_addRow_25 (by decide) (by unfold zR; omega) (by unfold zR; omega)  (fun h25 => ?_) (fun h25 => ?_)
      · exact absurd h25 (by omega)
      · refine rl_aload_n (pc := 28) dX0_addRow_28 rfl ?_
        refine rl_dup_r (pc := 29) dX0_addRow_29 ?_
        refine rl_getI (pc := 30) (ji := 1) (n := n0) dX0_addRow_30 fX0_41 hc.k (by omega) hn.o0 hc.i1 rfl ?_
        rw [show W c 1 = q from hq1]
        refine rl_iconst (n := 1) dX0_addRow_33 ?_
        refine rl_iadd (pc := 34) dX0_addRow_34 ?_
        refine rl_put (pc := 35) (ji := 1) (n := n0) dX0_addRow_35 fX0_41 fp_0_1 hc.k (by omega) (by omega) hn.o0 hc.i1 rfl ?_
        refine rl_aload_n (pc := 38) dX0_addRow_38 rfl ?_
        refine rl_getR (pc := 39) (n := n0) dX0_addRow_39 fX0_15 hc.k (by omega) hn.o0 hc.r9 (zset1 ((zup_i (by decide)).trans (hs 9 (by omega) (by omega)))) ?_
        refine rl_aload_n (pc := 42) dX0_addRow_42 rfl ?_
        refine rl_getI (pc := 43) (ji := 1) (n := n0) dX0_addRow_43 fX0_41 hc.k (by omega) hn.o0 hc.i1 rfl ?_
        rw [show zup W c 1 (q + 1) c 1 = q + 1 from zup_s]
        refine rl_aload_n (pc := 46) dX0_addRow_46 rfl ?_
        refine rl_getI (pc := 47) (ji := 0) (n := n0) dX0_addRow_47 fX0_37 hc.k (by omega) hn.o0 hc.i0 rfl ?_
        rw [show zup W c 1 (q + 1) c 0 = r from (zup_i (by decide)).trans hr]
        refine rl_iast (pc := 50) (ix := (n0 + 2)) dX0_addRow_50 hc.a2 (by omega) (by omega) hn.o2 (by omega) (by omega) ?_
        refine rl_iinc (pc := 51) dX0_addRow_51 rfl (by decide) ?_
        refine rl_goto (pc := 54) (tgt := 23) dX0_addRow_54 (by decide) ?_
        refine rl_iload_n (pc := 23) dX0_addRow_23 rfl ?_
        refine rl_iload_n (pc := 24) dX0_addRow_24 rfl ?_
        refine rl_icmp_ge (pc := 25) (tgt := 57) dX0_addRow_25 (by decide) (by unfold zR; omega) (by unfold zR; omega)  (fun h25 => ?_) (fun h25 => ?_)
        · refine rl_aload_n (pc := 57) dX0_addRow_57 rfl ?_
          refine rl_dup_r (pc := 58) dX0_addRow_58 ?_
          refine rl_getI (pc := 59) (ji := 0) (n := n0) dX0_addRow_59 fX0_37 hc.k (by omega) hn.o0 hc.i0 rfl ?_
          rw [show zup (zup W c 1 (q + 1)) (c + 2) (q + 1) r c 0 = r from (zup_k (by omega)).trans ((zup_i (by decide)).trans hr)]
          refine rl_iconst (n := 1) dX0_addRow_62 ?_
          refine rl_iadd (pc := 63) dX0_addRow_63 ?_
          refine rl_put (pc := 64) (ji := 0) (n := n0) dX0_addRow_64 fX0_37 fp_0_0 hc.k (by omega) (by omega) hn.o0 hc.i0 rfl ?_
          refine rl_aload_n (pc := 67) dX0_addRow_67 rfl ?_
          refine rl_getR (pc := 68) (n := n0) dX0_addRow_68 fX0_9 hc.k (by omega) hn.o0 hc.r8 (zset1 ((zup_i (by decide)).trans ((zup_k (by omega)).trans ((zup_i (by decide)).trans (hs 8 (by omega) (by omega)))))) ?_
          refine rl_aload_n (pc := 71) dX0_addRow_71 rfl ?_
          refine rl_getI (pc := 72) (ji := 0) (n := n0) dX0_addRow_72 fX0_37 hc.k (by omega) hn.o0 hc.i0 rfl ?_
          rw [show zup (zup (zup W c 1 (q + 1)) (c + 2) (q + 1) r) c 0 (r + 1) c 0 = r + 1 from zup_s]
          refine rl_aload_n (pc := 75) dX0_addRow_75 rfl ?_
          refine rl_getI (pc := 76) (ji := 1) (n := n0) dX0_addRow_76 fX0_41 hc.k (by omega) hn.o0 hc.i1 rfl ?_
          rw [show zup (zup (zup W c 1 (q + 1)) (c + 2) (q + 1) r) c 0 (r + 1) c 1 = q + 1 from (zup_i (by decide)).trans ((zup_k (by omega)).trans zup_s)]
          refine rl_iconst (n := 1) dX0_addRow_79 ?_
          refine rl_iadd (pc := 80) dX0_addRow_80 ?_
          refine rl_iast (pc := 81) (ix := (n0 + 1)) dX0_addRow_81 hc.a1 (by omega) (by omega) hn.o1 (by omega) (by omega) ?_
          exact rl_ret (pc := 82) dX0_addRow_82 rfl (hq)
        · exact absurd h25 (by omega)
    · exact absurd h17 (by omega)
theorem nX0_addPlayer {n0 c N : Nat} {W : zWd} {x : Int} {Q : zWd → Prop} (hc : zCt c) (hn : zCn n0 c) (hN : N ≤ 129) (hm : n0 + 8 ≤ N) (hs : ∀ j : Int, 8 ≤ j → j < 15 → W c j = 1) (hp : W c 2 = x) (x0 : 0 ≤ x) (x6 : x < 6) (h7 : W (c + 7) x = 0) (h5 : ∀ i : Int, 0 ≤ i → i < 10 → W (c + 5) (x * 10 + i) = 0) (hq : Q (zup (zup (zup (zup (zup W c 2 (x + 1)) (c + 5) (x * 10 + 0) 2) (c + 5) (x * 10 + 1) 3) (c + 5) (x * 10 + 2) 1) (c + 5) (x * 10 + 5) (-1))) : EvN MX0_addPlayer 1 0 (N) W [.ref c] Q := by
  refine ev_ofL (ls := [.ref c, .null, .null]) (by decide) rfl (fun _ => rfl) (fun _ => Nat.le_of_ble_eq_true rfl) ?_
  refine rl_aload_n (pc := 0) dX0_addPlayer_0 rfl ?_
  refine rl_getI (pc := 1) (ji := 2) (n := n0) dX0_addPlayer_1 fX0_44 hc.k (by omega) hn.o0 hc.i2 rfl ?_
  rw [show W c 2 = x from hp]
  refine rl_bipush (n := (6)) dX0_addPlayer_4 ?_
  refine rl_icmp_lt (pc := 6) (tgt := 10) dX0_addPlayer_6 (by decide) (by unfold zR; omega) (by unfold zR; omega)  (fun h6 => ?_) (fun h6 => ?_)
  · refine rl_aload_n (pc := 10) dX0_addPlayer_10 rfl ?_
    refine rl_getI (pc := 11) (ji := 2) (n := n0) dX0_addPlayer_11 fX0_44 hc.k (by omega) hn.o0 hc.i2 rfl ?_
    rw [show W c 2 = x from hp]
    refine rl_istore_n (pc := 14) dX0_addPlayer_14 (by decide) ?_
    refine rl_aload_n (pc := 15) dX0_addPlayer_15 rfl ?_
    refine rl_dup_r (pc := 16) dX0_addPlayer_16 ?_
    refine rl_getI (pc := 17) (ji := 2) (n := n0) dX0_addPlayer_17 fX0_44 hc.k (by omega) hn.o0 hc.i2 rfl ?_
    rw [show W c 2 = x from hp]
    refine rl_iconst (n := 1) dX0_addPlayer_20 ?_
    refine rl_iadd (pc := 21) dX0_addPlayer_21 ?_
    refine rl_put (pc := 22) (ji := 2) (n := n0) dX0_addPlayer_22 fX0_44 fp_0_2 hc.k (by omega) (by omega) hn.o0 hc.i2 rfl ?_
    refine rl_aload_n (pc := 25) dX0_addPlayer_25 rfl ?_
    refine rl_getR (pc := 26) (n := n0) dX0_addPlayer_26 fX0_31 hc.k (by omega) hn.o0 hc.r14 (zset1 ((zup_i (by decide)).trans (hs 14 (by omega) (by omega)))) ?_
    refine rl_iload_n (pc := 29) dX0_addPlayer_29 rfl ?_
    refine rl_iconst (n := 0) dX0_addPlayer_30 ?_
    refine rl_iast (pc := 31) (ix := (n0 + 7)) dX0_addPlayer_31 hc.a7 (by omega) (by omega) hn.o7 (by omega) (by omega) ?_
    rw [zup_id (show zup W c 2 (x + 1) (c + 7) x = 0 from (zup_k (by omega)).trans h7)]
    refine rl_iconst (n := 0) dX0_addPlayer_32 ?_
    refine rl_istore_n (pc := 33) dX0_addPlayer_33 (by decide) ?_
    have tail : RN MX0_addPlayer 1 0 N (zup W c 2 (x + 1)) 53 [.ref c, zI x, zI 10] [] (zEndL MX0_addPlayer (N + 0) Q) := by
      refine rl_aload_n (pc := 53) dX0_addPlayer_53 rfl ?_
      refine rl_iload_n (pc := 54) dX0_addPlayer_54 rfl ?_
      refine rl_iconst (n := 0) dX0_addPlayer_55 ?_
      refine rl_iconst (n := 2) dX0_addPlayer_56 ?_
      refine rl_inv (M' := MX0_put) (d' := 0) (w' := 0) (k := c) (ik := n0) (As := [_, _, _]) (pc := 57) dX0_addPlayer_57 (zWs_in 378 (by decide +kernel) rfl) kX0_put vX0_put hc.k (by decide) (by omega) hn.o0 rfl (by decide) (by omega) (by decide) (Nat.le_of_ble_eq_true rfl) rfl (zLv.r (j := n0) (by omega) hn.o0 (zLv.i (zLv.i (zLv.nil)))) (zLv.nil) (nX0_put (q := x) (w := 0) (v := 2) hc hn (by omega) (by omega) (fun j g0 g1 => ((zup_i (by omega)).trans (hs j g0 g1))) x0 (by omega) (by decide) (by decide) ?_)
      refine rl_aload_n (pc := 60) dX0_addPlayer_60 rfl ?_
      refine rl_iload_n (pc := 61) dX0_addPlayer_61 rfl ?_
      refine rl_iconst (n := 1) dX0_addPlayer_62 ?_
      refine rl_iconst (n := 3) dX0_addPlayer_63 ?_
      refine rl_inv (M' := MX0_put) (d' := 0) (w' := 0) (k := c) (ik := n0) (As := [_, _, _]) (pc := 64) dX0_addPlayer_64 (zWs_in 378 (by decide +kernel) rfl) kX0_put vX0_put hc.k (by decide) (by omega) hn.o0 rfl (by decide) (by omega) (by decide) (Nat.le_of_ble_eq_true rfl) rfl (zLv.r (j := n0) (by omega) hn.o0 (zLv.i (zLv.i (zLv.nil)))) (zLv.nil) (nX0_put (q := x) (w := 1) (v := 3) hc hn (by omega) (by omega) (fun j g0 g1 => ((zup_k (by omega)).trans ((zup_i (by omega)).trans (hs j g0 g1)))) x0 (by omega) (by decide) (by decide) ?_)
      refine rl_aload_n (pc := 67) dX0_addPlayer_67 rfl ?_
      refine rl_iload_n (pc := 68) dX0_addPlayer_68 rfl ?_
      refine rl_iconst (n := 2) dX0_addPlayer_69 ?_
      refine rl_iconst (n := 1) dX0_addPlayer_70 ?_
      refine rl_inv (M' := MX0_put) (d' := 0) (w' := 0) (k := c) (ik := n0) (As := [_, _, _]) (pc := 71) dX0_addPlayer_71 (zWs_in 378 (by decide +kernel) rfl) kX0_put vX0_put hc.k (by decide) (by omega) hn.o0 rfl (by decide) (by omega) (by decide) (Nat.le_of_ble_eq_true rfl) rfl (zLv.r (j := n0) (by omega) hn.o0 (zLv.i (zLv.i (zLv.nil)))) (zLv.nil) (nX0_put (q := x) (w := 2) (v := 1) hc hn (by omega) (by omega) (fun j g0 g1 => ((zup_k (by omega)).trans ((zup_k (by omega)).trans ((zup_i (by omega)).trans (hs j g0 g1))))) x0 (by omega) (by decide) (by decide) ?_)
      refine rl_aload_n (pc := 74) dX0_addPlayer_74 rfl ?_
      refine rl_iload_n (pc := 75) dX0_addPlayer_75 rfl ?_
      refine rl_iconst (n := 5) dX0_addPlayer_76 ?_
      refine rl_iconst (n := (-1)) dX0_addPlayer_77 ?_
      refine rl_inv (M' := MX0_put) (d' := 0) (w' := 0) (k := c) (ik := n0) (As := [_, _, _]) (pc := 78) dX0_addPlayer_78 (zWs_in 378 (by decide +kernel) rfl) kX0_put vX0_put hc.k (by decide) (by omega) hn.o0 rfl (by decide) (by omega) (by decide) (Nat.le_of_ble_eq_true rfl) rfl (zLv.r (j := n0) (by omega) hn.o0 (zLv.i (zLv.i (zLv.nil)))) (zLv.nil) (nX0_put (q := x) (w := 5) (v := (-1)) hc hn (by omega) (by omega) (fun j g0 g1 => ((zup_k (by omega)).trans ((zup_k (by omega)).trans ((zup_k (by omega)).trans ((zup_i (by omega)).trans (hs j g0 g1)))))) x0 (by omega) (by decide) (by decide) ?_)
      exact rl_ret (pc := 81) dX0_addPlayer_81 rfl (hq)
    have loop : ∀ (n : Nat) (i : Int), 0 ≤ i → i ≤ 10 → (10 - i).toNat < n → RN MX0_addPlayer 1 0 N (zup W c 2 (x + 1)) 34 [.ref c, zI x, zI i] [] (zEndL MX0_addPlayer (N + 0) Q) := by
      intro n
      induction n with
      | zero => intro i _ _ hm9; omega
      | succ n ih =>
        intro i h0 h1 hm9
        refine rl_iload_n (pc := 34) dX0_addPlayer_34 rfl ?_
        refine rl_bipush (n := (10)) dX0_addPlayer_35 ?_
        refine rl_icmp_ge (pc := 37) (tgt := 53) dX0_addPlayer_37 (by decide) (by unfold zR; omega) (by unfold zR; omega)  (fun h37 => ?_) (fun h37 => ?_)
        · have e9 : i = 10 := by omega
          rw [e9]
          exact tail
        · refine rl_aload_n (pc := 40) dX0_addPlayer_40 rfl ?_
          refine rl_iload_n (pc := 41) dX0_addPlayer_41 rfl ?_
          refine rl_iload_n (pc := 42) dX0_addPlayer_42 rfl ?_
          refine rl_iconst (n := 0) dX0_addPlayer_43 ?_
          refine rl_inv (M' := MX0_put) (d' := 0) (w' := 0) (k := c) (ik := n0) (As := [_, _, _]) (pc := 44) dX0_addPlayer_44 (zWs_in 378 (by decide +kernel) rfl) kX0_put vX0_put hc.k (by decide) (by omega) hn.o0 rfl (by decide) (by omega) (by decide) (Nat.le_of_ble_eq_true rfl) rfl (zLv.r (j := n0) (by omega) hn.o0 (zLv.i (zLv.i (zLv.nil)))) (zLv.nil) (nX0_put (q := x) (w := i) (v := 0) hc hn (by omega) (by omega) (fun j g0 g1 => (zup_i (by omega)).trans (hs j g0 g1)) x0 (by omega) h0 (by omega) ?_)
          rw [zup_id (show zup W c 2 (x + 1) (c + 5) (x * 10 + i) = 0 from (zup_k (by omega)).trans (h5 i h0 (by omega)))]
          refine rl_iinc (pc := 47) dX0_addPlayer_47 rfl (by decide) ?_
          refine rl_goto (pc := 50) (tgt := 34) dX0_addPlayer_50 (by decide) ?_
          exact ih (i + 1) (by omega) (by omega) (by omega)
    exact loop 11 0 (by omega) (by omega) (by omega)
  · exact absurd h6 (by omega)
theorem nX0_addLetter {n0 c N : Nat} {W : zWd} {x v : Int} {Q : zWd → Prop} (hc : zCt c) (hn : zCn n0 c) (hN : N ≤ 129) (hm : n0 + 8 ≤ N) (hs : ∀ j : Int, 8 ≤ j → j < 15 → W c j = 1) (hp : W c 2 = x + 1) (x0 : 0 ≤ x) (x6 : x < 6) (h7 : W (c + 7) x = 0) (v0 : 0 ≤ v) (v1 : v < 128) (hq : Q (zup (zup W (c + 6) (x * 8 + 0) v) (c + 7) x (0 + 1))) : EvN MX0_addLetter 0 0 (N) W [.ref c, zI v] Q := by
  refine ev_ofL (ls := [.ref c, zI v, .null]) (by decide) rfl (fun _ => rfl) (fun _ => Nat.le_of_ble_eq_true rfl) ?_
  refine rl_aload_n (pc := 0) dX0_addLetter_0 rfl ?_
  refine rl_getI (pc := 1) (ji := 2) (n := n0) dX0_addLetter_1 fX0_44 hc.k (by omega) hn.o0 hc.i2 rfl ?_
  rw [show W c 2 = x + 1 from hp]
  refine rl_iconst (n := 1) dX0_addLetter_4 ?_
  refine rl_isub (pc := 5) dX0_addLetter_5 ?_
  rw [show x + 1 - 1 = x by omega]
  refine rl_istore_n (pc := 6) dX0_addLetter_6 (by decide) ?_
  refine rl_iload_n (pc := 7) dX0_addLetter_7 rfl ?_
  refine rl_if_lt (pc := 8) (tgt := 50) dX0_addLetter_8 (by decide) (by unfold zR; omega)  (fun h8 => ?_) (fun h8 => ?_)
  · exact absurd h8 (by omega)
  · refine rl_aload_n (pc := 11) dX0_addLetter_11 rfl ?_
    refine rl_getR (pc := 12) (n := n0) dX0_addLetter_12 fX0_31 hc.k (by omega) hn.o0 hc.r14 (zset1 (hs 14 (by omega) (by omega))) ?_
    refine rl_iload_n (pc := 15) dX0_addLetter_15 rfl ?_
    refine rl_iald (pc := 16) (ix := (n0 + 7)) dX0_addLetter_16 hc.a7 (by omega) hn.o7 (by omega) (by omega) ?_
    rw [show W (c + 7) x = 0 from h7]
    refine rl_bipush (n := (8)) dX0_addLetter_17 ?_
    refine rl_icmp_ge (pc := 19) (tgt := 50) dX0_addLetter_19 (by decide) (by unfold zR; omega) (by unfold zR; omega)  (fun h19 => ?_) (fun h19 => ?_)
    · exact absurd h19 (by omega)
    · refine rl_aload_n (pc := 22) dX0_addLetter_22 rfl ?_
      refine rl_getR (pc := 23) (n := n0) dX0_addLetter_23 fX0_27 hc.k (by omega) hn.o0 hc.r13 (zset1 (hs 13 (by omega) (by omega))) ?_
      refine rl_iload_n (pc := 26) dX0_addLetter_26 rfl ?_
      refine rl_bipush (n := (8)) dX0_addLetter_27 ?_
      refine rl_imul (pc := 29) dX0_addLetter_29 ?_
      refine rl_aload_n (pc := 30) dX0_addLetter_30 rfl ?_
      refine rl_getR (pc := 31) (n := n0) dX0_addLetter_31 fX0_31 hc.k (by omega) hn.o0 hc.r14 (zset1 (hs 14 (by omega) (by omega))) ?_
      refine rl_iload_n (pc := 34) dX0_addLetter_34 rfl ?_
      refine rl_iald (pc := 35) (ix := (n0 + 7)) dX0_addLetter_35 hc.a7 (by omega) hn.o7 (by omega) (by omega) ?_
      rw [show W (c + 7) x = 0 from h7]
      refine rl_iadd (pc := 36) dX0_addLetter_36 ?_
      refine rl_iload_n (pc := 37) dX0_addLetter_37 rfl ?_
      refine rl_i2b (pc := 38) dX0_addLetter_38 ?_
      rw [show v.bmod 256 = v from z_bm (by omega) (by omega)]
      refine rl_bast (pc := 39) (ix := (n0 + 6)) dX0_addLetter_39 hc.a6 (by omega) (by omega) hn.o6 (by omega) (by omega) (by omega) (by omega) ?_
      refine rl_aload_n (pc := 40) dX0_addLetter_40 rfl ?_
      refine rl_getR (pc := 41) (n := n0) dX0_addLetter_41 fX0_31 hc.k (by omega) hn.o0 hc.r14 (zset1 ((zup_k (by omega)).trans (hs 14 (by omega) (by omega)))) ?_
      refine rl_iload_n (pc := 44) dX0_addLetter_44 rfl ?_
      refine rl_dup2 (pc := 45) dX0_addLetter_45 ?_
      refine rl_iald (pc := 46) (ix := (n0 + 7)) dX0_addLetter_46 hc.a7 (by omega) hn.o7 (by omega) (by omega) ?_
      rw [show zup W (c + 6) (x * 8 + 0) v (c + 7) x = 0 from (zup_k (by omega)).trans h7]
      refine rl_iconst (n := 1) dX0_addLetter_47 ?_
      refine rl_iadd (pc := 48) dX0_addLetter_48 ?_
      refine rl_iast (pc := 49) (ix := (n0 + 7)) dX0_addLetter_49 hc.a7 (by omega) (by omega) hn.o7 (by omega) (by omega) ?_
      exact rl_ret (pc := 50) dX0_addLetter_50 rfl (hq)
