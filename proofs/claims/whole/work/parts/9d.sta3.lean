section ZAS
variable {M : zM} {d w N : Nat} {W₀ : zWd} {pc : Nat} {ls st : List Value} {K : zKL}
theorem rl_astore_n {k : Fin 4} {r : Nat} (hd : decode M.2.1 pc = .ok (.astore_n k, 1)) (hn : (k : Nat) < M.2.2.1) (kk : RN M d w N W₀ (pc + 1) (zs ls k (.ref r)) st K) : RN M d w N W₀ pc ls (.ref r :: st) K := by
  intro p l e R s m args below meth c cells slots Q D Y ad A hC hK H locs lsA hP hS hl
  exact lv_astore_n hC.1.1 hC.1.2.1 hd rfl hl hn rfl (fun ls' hl' => kk p l e R s m args below meth c cells slots Q D Y ad A hC hK H locs ls' hP hS (zl_put (x := .ref r) hl'))
theorem rl_istore {i : Nat} {z : Int} (hd : decode M.2.1 pc = .ok (.istore i, 2)) (hn : i < M.2.2.1) (kk : RN M d w N W₀ (pc + 2) (zs ls i (zI z)) st K) : RN M d w N W₀ pc ls (zI z :: st) K := by
  intro p l e R s m args below meth c cells slots Q D Y ad A hC hK H locs lsA hP hS hl
  exact lv_istore hC.1.1 hC.1.2.1 hd hl hn rfl (fun ls' hl' => kk p l e R s m args below meth c cells slots Q D Y ad A hC hK H locs ls' hP hS (zl_put (x := zI z) hl'))
end ZAS
/-- every reference is set -/
def zFull (W : zWd) : Prop := (∀ c : Nat, zCt c → ∀ j : Int, 8 ≤ j → j < 15 → W c j = 1) ∧ (∀ j : Int, 0 ≤ j → j < 8 → W 109 j = 1) ∧ W 96 0 = 1 ∧ W 96 1 = 1 ∧ W 96 2 = 1 ∧ W 96 3 = 1 ∧ W 96 4 = 1 ∧ W 96 5 = 1 ∧ W 96 6 = 1 ∧ W 96 7 = 1 ∧ W 97 0 = 1 ∧ W 97 1 = 1 ∧ W 98 3 = 1 ∧ W 98 8 = 1 ∧ W 98 9 = 1 ∧ W 98 10 = 1 ∧ W 103 3 = 1 ∧ W 103 8 = 1 ∧ W 103 9 = 1 ∧ W 103 10 = 1 ∧ W 108 0 = 1 ∧ W 110 0 = 1 ∧ W 110 1 = 1 ∧ W 112 0 = 1 ∧ W 114 0 = 1 ∧ W 116 0 = 1 ∧ W 116 1 = 1 ∧ W 116 2 = 1 ∧ W 116 3 = 1 ∧ W 116 4 = 1 ∧ W 116 5 = 1 ∧ W 116 8 = 1 ∧ W 116 17 = 1 ∧ W 116 18 = 1 ∧ W 116 19 = 1 ∧ W 116 25 = 1
theorem zFull.ok {W : zWd} (h : zFull W) : ∀ k : Nat, k < 129 → ∀ j : Nat, j < zrl k → zr k j ≠ none → W k j ≠ 0 := by
  obtain ⟨hc, h109, f96_0, f96_1, f96_2, f96_3, f96_4, f96_5, f96_6, f96_7, f97_0, f97_1, f98_3, f98_8, f98_9, f98_10, f103_3, f103_8, f103_9, f103_10, f108_0, f110_0, f110_1, f112_0, f114_0, f116_0, f116_1, f116_2, f116_3, f116_4, f116_5, f116_8, f116_17, f116_18, f116_19, f116_25⟩ := h
  intro k hk j hj hr
  rcases Nat.lt_or_ge k 96 with h96 | h96
  · have hm : k % 8 = 0 ∧ 8 ≤ j := by
      refine Classical.byContradiction (fun z => hr ?_)
      unfold zr
      rw [if_pos h96, if_neg z]
    have hct : zCt k := ⟨k / 8, by omega, by omega⟩
    have hj15 : j < 15 := by
      unfold zrl at hj
      rw [hct.k] at hj
      exact hj
    exact zset1 (hc k hct j (by omega) (by omega))
  · rcases (show k = 96 ∨ k = 97 ∨ k = 98 ∨ k = 99 ∨ k = 100 ∨ k = 101 ∨ k = 102 ∨ k = 103 ∨ k = 104 ∨ k = 105 ∨ k = 106 ∨ k = 107 ∨ k = 108 ∨ k = 109 ∨ k = 110 ∨ k = 111 ∨ k = 112 ∨ k = 113 ∨ k = 114 ∨ k = 115 ∨ k = 116 ∨ k = 117 ∨ k = 118 ∨ k = 119 ∨ k = 120 ∨ k = 121 ∨ k = 122 ∨ k = 123 ∨ k = 124 ∨ k = 125 ∨ k = 126 ∨ k = 127 ∨ k = 128 by omega) with rfl | rfl | rfl | rfl | rfl | rfl | rfl | rfl | rfl | rfl | rfl | rfl | rfl | rfl | rfl | rfl | rfl | rfl | rfl | rfl | rfl | rfl | rfl | rfl | rfl | rfl | rfl | rfl | rfl | rfl | rfl | rfl | rfl
    · have hj : j < 8 := hj
      rcases (show j = 0 ∨ j = 1 ∨ j = 2 ∨ j = 3 ∨ j = 4 ∨ j = 5 ∨ j = 6 ∨ j = 7 by omega) with rfl | rfl | rfl | rfl | rfl | rfl | rfl | rfl
      · exact zset1 f96_0
      · exact zset1 f96_1
      · exact zset1 f96_2
      · exact zset1 f96_3
      · exact zset1 f96_4
      · exact zset1 f96_5
      · exact zset1 f96_6
      · exact zset1 f96_7
    · have hj : j < 2 := hj
      rcases (show j = 0 ∨ j = 1 by omega) with rfl | rfl
      · exact zset1 f97_0
      · exact zset1 f97_1
    · have hj : j < 11 := hj
      rcases (show j = 0 ∨ j = 1 ∨ j = 2 ∨ j = 3 ∨ j = 4 ∨ j = 5 ∨ j = 6 ∨ j = 7 ∨ j = 8 ∨ j = 9 ∨ j = 10 by omega) with rfl | rfl | rfl | rfl | rfl | rfl | rfl | rfl | rfl | rfl | rfl
      · exact absurd rfl hr
      · exact absurd rfl hr
      · exact absurd rfl hr
      · exact zset1 f98_3
      · exact absurd rfl hr
      · exact absurd rfl hr
      · exact absurd rfl hr
      · exact absurd rfl hr
      · exact zset1 f98_8
      · exact zset1 f98_9
      · exact zset1 f98_10
    · exact absurd (show j < 0 from hj) (Nat.not_lt_zero j)
    · exact absurd (show j < 0 from hj) (Nat.not_lt_zero j)
    · exact absurd (show j < 0 from hj) (Nat.not_lt_zero j)
    · exact absurd (show j < 0 from hj) (Nat.not_lt_zero j)
    · have hj : j < 11 := hj
      rcases (show j = 0 ∨ j = 1 ∨ j = 2 ∨ j = 3 ∨ j = 4 ∨ j = 5 ∨ j = 6 ∨ j = 7 ∨ j = 8 ∨ j = 9 ∨ j = 10 by omega) with rfl | rfl | rfl | rfl | rfl | rfl | rfl | rfl | rfl | rfl | rfl
      · exact absurd rfl hr
      · exact absurd rfl hr
      · exact absurd rfl hr
      · exact zset1 f103_3
      · exact absurd rfl hr
      · exact absurd rfl hr
      · exact absurd rfl hr
      · exact absurd rfl hr
      · exact zset1 f103_8
      · exact zset1 f103_9
      · exact zset1 f103_10
    · exact absurd (show j < 0 from hj) (Nat.not_lt_zero j)
    · exact absurd (show j < 0 from hj) (Nat.not_lt_zero j)
    · exact absurd (show j < 0 from hj) (Nat.not_lt_zero j)
    · exact absurd (show j < 0 from hj) (Nat.not_lt_zero j)
    · have hj : j < 3 := hj
      rcases (show j = 0 ∨ j = 1 ∨ j = 2 by omega) with rfl | rfl | rfl
      · exact zset1 f108_0
      · exact absurd rfl hr
      · exact absurd rfl hr
    · have hj : j < 8 := hj
      exact zset1 (h109 j (by omega) (by omega))
    · have hj : j < 2 := hj
      rcases (show j = 0 ∨ j = 1 by omega) with rfl | rfl
      · exact zset1 f110_0
      · exact zset1 f110_1
    · exact absurd (show j < 0 from hj) (Nat.not_lt_zero j)
    · have hj : j < 7 := hj
      rcases (show j = 0 ∨ j = 1 ∨ j = 2 ∨ j = 3 ∨ j = 4 ∨ j = 5 ∨ j = 6 by omega) with rfl | rfl | rfl | rfl | rfl | rfl | rfl
      · exact zset1 f112_0
      · exact absurd rfl hr
      · exact absurd rfl hr
      · exact absurd rfl hr
      · exact absurd rfl hr
      · exact absurd rfl hr
      · exact absurd rfl hr
    · exact absurd (show j < 0 from hj) (Nat.not_lt_zero j)
    · have hj : j < 2 := hj
      rcases (show j = 0 ∨ j = 1 by omega) with rfl | rfl
      · exact zset1 f114_0
      · exact absurd rfl hr
    · exact absurd (show j < 0 from hj) (Nat.not_lt_zero j)
    · have hj : j < 27 := hj
      rcases (show j = 0 ∨ j = 1 ∨ j = 2 ∨ j = 3 ∨ j = 4 ∨ j = 5 ∨ j = 6 ∨ j = 7 ∨ j = 8 ∨ j = 9 ∨ j = 10 ∨ j = 11 ∨ j = 12 ∨ j = 13 ∨ j = 14 ∨ j = 15 ∨ j = 16 ∨ j = 17 ∨ j = 18 ∨ j = 19 ∨ j = 20 ∨ j = 21 ∨ j = 22 ∨ j = 23 ∨ j = 24 ∨ j = 25 ∨ j = 26 by omega) with rfl | rfl | rfl | rfl | rfl | rfl | rfl | rfl | rfl | rfl | rfl | rfl | rfl | rfl | rfl | rfl | rfl | rfl | rfl | rfl | rfl | rfl | rfl | rfl | rfl | rfl | rfl
      · exact zset1 f116_0
      · exact zset1 f116_1
      · exact zset1 f116_2
      · exact zset1 f116_3
      · exact zset1 f116_4
      · exact zset1 f116_5
      · exact absurd rfl hr
      · exact absurd rfl hr
      · exact zset1 f116_8
      · exact absurd rfl hr
      · exact absurd rfl hr
      · exact absurd rfl hr
      · exact absurd rfl hr
      · exact absurd rfl hr
      · exact absurd rfl hr
      · exact absurd rfl hr
      · exact absurd rfl hr
      · exact zset1 f116_17
      · exact zset1 f116_18
      · exact zset1 f116_19
      · exact absurd rfl hr
      · exact absurd rfl hr
      · exact absurd rfl hr
      · exact absurd rfl hr
      · exact absurd rfl hr
      · exact zset1 f116_25
      · exact absurd rfl hr
    · exact absurd (show j < 0 from hj) (Nat.not_lt_zero j)
    · exact absurd (show j < 0 from hj) (Nat.not_lt_zero j)
    · exact absurd (show j < 0 from hj) (Nat.not_lt_zero j)
    · exact absurd (show j < 0 from hj) (Nat.not_lt_zero j)
    · exact absurd (show j < 0 from hj) (Nat.not_lt_zero j)
    · exact absurd (show j < 0 from hj) (Nat.not_lt_zero j)
    · exact absurd (show j < 0 from hj) (Nat.not_lt_zero j)
    · exact absurd (show j < 0 from hj) (Nat.not_lt_zero j)
    · exact absurd (show j < 0 from hj) (Nat.not_lt_zero j)
    · exact absurd (show j < 0 from hj) (Nat.not_lt_zero j)
    · exact absurd (show j < 0 from hj) (Nat.not_lt_zero j)
    · exact absurd (show j < 0 from hj) (Nat.not_lt_zero j)
theorem dL_law_0 : decode cL_law 0 = .ok (.new 8, 3) := by decide +kernel
theorem dL_law_3 : decode cL_law 3 = .ok (.dup, 1) := by decide +kernel
theorem dL_law_4 : decode cL_law 4 = .ok (.invokespecial 98, 3) := by decide +kernel
theorem dL_law_7 : decode cL_law 7 = .ok (.astore_n 1, 1) := by decide +kernel
theorem dL_law_8 : decode cL_law 8 = .ok (.new 99, 3) := by decide +kernel
theorem dL_law_11 : decode cL_law 11 = .ok (.dup, 1) := by decide +kernel
theorem dL_law_12 : decode cL_law 12 = .ok (.invokespecial 101, 3) := by decide +kernel
theorem dL_law_15 : decode cL_law 15 = .ok (.astore_n 2, 1) := by decide +kernel
theorem dL_law_16 : decode cL_law 16 = .ok (.iconst 1, 1) := by decide +kernel
theorem dL_law_17 : decode cL_law 17 = .ok (.newarray .long, 2) := by decide +kernel
theorem dL_law_19 : decode cL_law 19 = .ok (.astore_n 3, 1) := by decide +kernel
/-- what holds once both systems are made -/
def zMd (W : zWd) : Prop := zFull W ∧ zIv W 0
theorem law_made {K : zKL} (hk : ∀ F : zWd, zMd F → K 0 129 23 (zLS 0) [] F) : RN MLaw 5 129 0 (fun _ _ => 0) 0 [.ref 1300, .null, .null, .null, .null, .null, .null, .null, .null] [] K := by
  refine rl_new (pc := 0) (ci := 6) (C := RX6) (T := TX6) (fs := fsX6) dL_law_0 rfl (by decide) uwX6 tyX6_ok (zWs_in 150 (by decide +kernel) rfl) (zWs_in 151 (by decide +kernel) rfl) (zWs_in 129 (by decide +kernel) rfl) fsX6_ok rfl (fun _ _ => rfl) (by decide) (by omega) (Or.inr (by decide)) (zLv.s (by decide) (zLv.n (zLv.n (zLv.n (zLv.n (zLv.n (zLv.n (zLv.n (zLv.n zLv.nil))))))))) zLv.nil ?_
  rw [show zov 0 = 96 from rfl]
  refine rl_nm (w' := 128) (N' := 1) rfl rfl ?_
  refine rl_dup_r (pc := 3) dL_law_3 ?_
  refine rl_ctor (M' := MX6_init) (d' := 4) (w' := 115) (k := 96) (As := []) (pc := 4) dL_law_4 lL_98 kX6_init (zWs_in 153 (by decide +kernel) rfl) rfl rfl (by decide) (by omega) (by decide) (Nat.le_of_ble_eq_true rfl) rfl (zLv.s (by decide) (zLv.n (zLv.n (zLv.n (zLv.n (zLv.n (zLv.n (zLv.n (zLv.n zLv.nil))))))))) (zLv.r (j := 0) (by omega) rfl zLv.nil) (nX6_init (fun j _ => znew_s) (fun V a0 a1 a2 a3 a4 a5 a6 a7 q0 q8 qg qh s0 s1 c80 c88 i0 i1 r0 r1 r6 t0 t1 out => ?_))
  refine rl_nm (w' := 13) (N' := 116) rfl rfl ?_
  refine rl_astore_n (pc := 7) dL_law_7 (by decide) ?_
  refine rl_new (pc := 8) (ci := 7) (C := RX7) (T := TX7) (fs := fsX7) dL_law_8 rfl (by decide) uwX7 tyX7_ok (zWs_in 1099 (by decide +kernel) rfl) (zWs_in 1100 (by decide +kernel) rfl) (zWs_in 136 (by decide +kernel) rfl) fsX7_ok rfl (fun _ _ => rfl) (by decide) (by omega) (Or.inr (by decide)) (zLv.s (by decide) (zLv.r (j := 0) (by omega) rfl (zLv.n (zLv.n (zLv.n (zLv.n (zLv.n (zLv.n (zLv.n zLv.nil))))))))) zLv.nil ?_
  rw [show zov 116 = 116 from rfl]
  refine rl_nm (w' := 12) (N' := 117) rfl rfl ?_
  refine rl_dup_r (pc := 11) dL_law_11 ?_
  refine rl_ctor (M' := MX7_init) (d' := 2) (w' := 11) (k := 116) (As := []) (pc := 12) dL_law_12 lL_101 kX7_init (zWs_in 1102 (by decide +kernel) rfl) rfl rfl (by decide) (by omega) (by decide) (Nat.le_of_ble_eq_true rfl) rfl (zLv.s (by decide) (zLv.r (j := 0) (by omega) rfl (zLv.n (zLv.n (zLv.n (zLv.n (zLv.n (zLv.n (zLv.n zLv.nil))))))))) (zLv.r (j := 116) (by omega) rfl zLv.nil) (nX7_init (fun j => znew_s) (fun U b0 b1 b2 b3 b4 b5 b8 b17 b18 b19 b25 b6 b7 b9 b26 b16 y117 y122 outU => ?_))
  refine rl_nm (w' := 1) (N' := 128) rfl rfl ?_
  refine rl_astore_n (pc := 15) dL_law_15 (by decide) ?_
  refine rl_iconst (n := 1) dL_law_16 ?_
  refine rl_newa_l (pc := 17) (n := 1) dL_law_17 (zWs_in 1598 (by decide +kernel) rfl) rfl (by omega) (Or.inr (by decide)) (zLv.s (by decide) (zLv.r (j := 0) (by omega) rfl (zLv.r (j := 116) (by omega) rfl (zLv.n (zLv.n (zLv.n (zLv.n (zLv.n (zLv.n zLv.nil))))))))) zLv.nil (by decide) ?_
  rw [show zov 128 = 128 from rfl]
  refine rl_nm (w' := 0) (N' := 129) rfl rfl ?_
  refine rl_astore_n (pc := 19) dL_law_19 (by decide) ?_
  refine rl_iconst (n := 0) dL_law_20 ?_
  refine rl_istore (pc := 21) dL_law_21 (by decide) ?_
  have eV : ∀ (k : Nat) (j : Int), 8 ≤ k → k < 116 → znew (zBem U) 128 k j = V k j := fun k j g0 g1 => by
    rw [znew_k (by omega), zBem_o (by omega), outU k (by omega), znew_k (by omega), zBeg_o (by omega)]
  have eK : ∀ k : Nat, k < 116 → znew (zBem U) 128 k = zBeg V k := fun k g1 => by
    rw [znew_o (by omega), zBem_o (by omega), outU k (by omega), znew_o (by omega)]
  have e116 : ∀ j : Int, znew (zBem U) 128 116 j = U 116 j := fun j => by rw [znew_k (by decide), zBem_o (by decide)]
  have e117 : znew (zBem U) 128 117 = a09 := by rw [znew_o (by decide)]; exact zBem_117 y117
  have eC : ∀ c : Nat, 8 ≤ c → c + 8 ≤ 96 → zC0 V c → zC0 (znew (zBem U) 128) c := fun c g0 g1 h => h.cg (fun k h0 h1 => by rw [eK k (by omega), zBeg_o (by omega)])
  have hct : ∀ c : Nat, zCt c → ∀ j : Int, 8 ≤ j → j < 15 → znew (zBem U) 128 c j = 1 := by
    intro c hc j g0 g1
    obtain ⟨i, hi, rfl⟩ := hc
    rcases Nat.eq_or_lt_of_le (Nat.zero_le i) with h0 | h0
    · subst h0
      show znew (zBem U) 128 (8 * 0) j = 1
      rw [eK (8 * 0) (by omega)]
      exact zBeg_r q0 j g0 g1
    · rw [eV (8 * i) j (by omega) (by omega)]
      rcases (show i = 1 ∨ (2 ≤ i ∧ i < 10) ∨ i = 10 ∨ i = 11 by omega) with rfl | h | rfl | rfl
      · exact q8.2.1 j g0 g1
      · have h9 := (qh.2.2 (i - 2) (by omega)).2.1 j g0 g1
        rw [show 16 + 8 * (i - 2) = 8 * i by omega] at h9
        exact h9
      · exact c80.2.1 j g0 g1
      · exact c88.2.1 j g0 g1
  have hfull : zFull (znew (zBem U) 128) := ⟨hct, fun j g0 g1 => (eV 109 j (by omega) (by omega)).trans (qh.2.1 j g0 g1), (eV 96 0 (by omega) (by omega)).trans a0, (eV 96 1 (by omega) (by omega)).trans a1, (eV 96 2 (by omega) (by omega)).trans a2, (eV 96 3 (by omega) (by omega)).trans a3, (eV 96 4 (by omega) (by omega)).trans a4, (eV 96 5 (by omega) (by omega)).trans a5, (eV 96 6 (by omega) (by omega)).trans a6, (eV 96 7 (by omega) (by omega)).trans a7, (eV 97 0 (by omega) (by omega)).trans qg.1.1, (eV 97 1 (by omega) (by omega)).trans qg.1.2, (eV 98 3 (by omega) (by omega)).trans qg.2.1.2.1, (eV 98 8 (by omega) (by omega)).trans qg.2.1.2.2.1, (eV 98 9 (by omega) (by omega)).trans qg.2.1.2.2.2.1, (eV 98 10 (by omega) (by omega)).trans qg.2.1.2.2.2.2, (eV 103 3 (by omega) (by omega)).trans qg.2.2.2.1, (eV 103 8 (by omega) (by omega)).trans qg.2.2.2.2.1, (eV 103 9 (by omega) (by omega)).trans qg.2.2.2.2.2.1, (eV 103 10 (by omega) (by omega)).trans qg.2.2.2.2.2.2, (eV 108 0 (by omega) (by omega)).trans qh.1.1, (eV 110 0 (by omega) (by omega)).trans s0, (eV 110 1 (by omega) (by omega)).trans s1, (eV 112 0 (by omega) (by omega)).trans r0, (eV 114 0 (by omega) (by omega)).trans t0, (e116 0).trans b0, (e116 1).trans b1, (e116 2).trans b2, (e116 3).trans b3, (e116 4).trans b4, (e116 5).trans b5, (e116 8).trans b8, (e116 17).trans b17, (e116 18).trans b18, (e116 19).trans b19, (e116 25).trans b25⟩
  refine rl_base (hk _ ⟨hfull, a09, 0, fun _ => a09, fun _ => False, fun _ => a09, [], [], -1, ?_, ?_, ?_⟩)
  · refine ⟨?_, ⟨(eV 98 0 (by omega) (by omega)).trans qg.2.1.1, (eV 103 0 (by omega) (by omega)).trans qg.2.2.1⟩, fun i g0 g1 => ?_, ⟨(eV 108 2 (by omega) (by omega)).trans qh.1.2.2, by decide, by decide, ?_, ?_, fun j hj => by omega⟩, fun i g0 g1 => Or.inl ⟨?_, fun z => z⟩, ⟨(eV 112 1 (by omega) (by omega)).trans r1, by decide, fun b hb => absurd hb (by simp), fun k hk => absurd hk (by simp)⟩, ⟨(eV 114 1 (by omega) (by omega)).trans t1, fun k hk => absurd hk (by simp)⟩, (eV 112 6 (by omega) (by omega)).trans r6⟩
    · exact CR_off (zBeg_CR q0) (fun k g0 g1 => eK k (by omega))
    · rw [eV (8 + 6) i (by omega) (by omega), show V (8 + 6) = fun _ => 0 from q8.2.2.2.2.2.2.2.1]
      exact ⟨show (-128 : Int) ≤ 0 by decide, show (0 : Int) < 128 by decide⟩
    · rw [eV 108 1 (by omega) (by omega), qh.1.2.1]; decide
    · rw [eV 108 1 (by omega) (by omega), qh.1.2.1]; decide
    · rw [eV 111 i (by omega) (by omega)]
      rcases (show i = 0 ∨ i = 1 by omega) with rfl | rfl
      · exact i0
      · exact i1
  · refine ⟨e117, ⟨(e116 6).trans b6, by decide, by decide, fun j hj => by omega⟩, fun i g0 g1 => Or.inl ⟨?_, fun z => z⟩, ⟨(e116 9).trans b9, by decide, fun b hb => absurd hb (by simp), fun k hk => absurd hk (by simp)⟩, ⟨(e116 26).trans b26, fun k hk => absurd hk (by simp)⟩, (e116 16).trans b16⟩
    rw [znew_k (by decide), zBem_o (by decide)]
    exact y122 i
  · exact ⟨⟨a09_wf, a09_tg⟩, fun j hj => by omega, fun i g0 g1 g2 => g2.elim, by decide, by unfold zR; omega⟩
