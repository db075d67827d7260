theorem zcn_1 : zCn 1 0 := by unfold zCn; decide +kernel
theorem zcn_9 : zCn 9 8 := by unfold zCn; decide +kernel
theorem zcn_95 : zCn 95 80 := by unfold zCn; decide +kernel
theorem zcn_103 : zCn 103 88 := by unfold zCn; decide +kernel
theorem zct_8 : zCt 8 := ⟨1, by omega, rfl⟩
theorem zct_80 : zCt 80 := ⟨10, by omega, rfl⟩
theorem zct_88 : zCt 88 := ⟨11, by omega, rfl⟩
/-- the court's beginning, over a wiped one -/
def zBeg (V : zWd) : zWd :=
  let V1 := zup (zup (zup (zup V 0 1 (0 + 1)) (0 + 2) (0 + 1) 0) 0 0 (0 + 1)) (0 + 1) (0 + 1) (0 + 1 + 1)
  let V2 := zup (zup (zup (zup V1 0 1 (0 + 1 + 1)) (0 + 2) (0 + 1 + 1) (0 + 1)) 0 0 (0 + 1 + 1)) (0 + 1) (0 + 1 + 1) (0 + 1 + 1 + 1)
  let V3 := zup (zup (zup (zup (zup V2 0 2 (0 + 1)) (0 + 5) (0 * 10 + 0) 2) (0 + 5) (0 * 10 + 1) 3) (0 + 5) (0 * 10 + 2) 1) (0 + 5) (0 * 10 + 5) (-1)
  let V4 := zup (zup V3 (0 + 6) (0 * 8 + 0) 97) (0 + 7) 0 (0 + 1)
  let V5 := zup (zup (zup (zup (zup V4 0 2 (0 + 1 + 1)) (0 + 5) ((0 + 1) * 10 + 0) 2) (0 + 5) ((0 + 1) * 10 + 1) 3) (0 + 5) ((0 + 1) * 10 + 2) 1) (0 + 5) ((0 + 1) * 10 + 5) (-1)
  zup (zup V5 (0 + 6) ((0 + 1) * 8 + 0) 98) (0 + 7) (0 + 1) (0 + 1)
theorem dX6_init_0 : decode cX6_init 0 = .ok (.aload_n 0, 1) := by decide +kernel
theorem dX6_init_1 : decode cX6_init 1 = .ok (.invokespecial 3, 3) := by decide +kernel
theorem dX6_init_4 : decode cX6_init 4 = .ok (.aload_n 0, 1) := by decide +kernel
theorem dX6_init_5 : decode cX6_init 5 = .ok (.new 9, 3) := by decide +kernel
theorem dX6_init_8 : decode cX6_init 8 = .ok (.dup, 1) := by decide +kernel
theorem dX6_init_9 : decode cX6_init 9 = .ok (.invokespecial 11, 3) := by decide +kernel
theorem dX6_init_12 : decode cX6_init 12 = .ok (.putfield 12, 3) := by decide +kernel
theorem dX6_init_15 : decode cX6_init 15 = .ok (.aload_n 0, 1) := by decide +kernel
theorem dX6_init_16 : decode cX6_init 16 = .ok (.new 9, 3) := by decide +kernel
theorem dX6_init_19 : decode cX6_init 19 = .ok (.dup, 1) := by decide +kernel
theorem dX6_init_20 : decode cX6_init 20 = .ok (.invokespecial 11, 3) := by decide +kernel
theorem dX6_init_23 : decode cX6_init 23 = .ok (.putfield 16, 3) := by decide +kernel
theorem dX6_init_26 : decode cX6_init 26 = .ok (.aload_n 0, 1) := by decide +kernel
theorem dX6_init_27 : decode cX6_init 27 = .ok (.new 19, 3) := by decide +kernel
theorem dX6_init_30 : decode cX6_init 30 = .ok (.dup, 1) := by decide +kernel
theorem dX6_init_31 : decode cX6_init 31 = .ok (.invokespecial 21, 3) := by decide +kernel
theorem dX6_init_34 : decode cX6_init 34 = .ok (.putfield 22, 3) := by decide +kernel
theorem dX6_init_37 : decode cX6_init 37 = .ok (.aload_n 0, 1) := by decide +kernel
theorem dX6_init_38 : decode cX6_init 38 = .ok (.new 26, 3) := by decide +kernel
theorem dX6_init_41 : decode cX6_init 41 = .ok (.dup, 1) := by decide +kernel
theorem dX6_init_42 : decode cX6_init 42 = .ok (.invokespecial 28, 3) := by decide +kernel
theorem dX6_init_45 : decode cX6_init 45 = .ok (.putfield 29, 3) := by decide +kernel
theorem dX6_init_48 : decode cX6_init 48 = .ok (.aload_n 0, 1) := by decide +kernel
theorem dX6_init_49 : decode cX6_init 49 = .ok (.iconst 2, 1) := by decide +kernel
theorem dX6_init_50 : decode cX6_init 50 = .ok (.anewarray 9, 3) := by decide +kernel
theorem dX6_init_53 : decode cX6_init 53 = .ok (.putfield 33, 3) := by decide +kernel
theorem dX6_init_56 : decode cX6_init 56 = .ok (.iconst 0, 1) := by decide +kernel
theorem dX6_init_57 : decode cX6_init 57 = .ok (.istore_n 1, 1) := by decide +kernel
theorem dX6_init_58 : decode cX6_init 58 = .ok (.iload_n 1, 1) := by decide +kernel
theorem dX6_init_59 : decode cX6_init 59 = .ok (.iconst 2, 1) := by decide +kernel
theorem dX6_init_60 : decode cX6_init 60 = .ok (.if_icmp .ge 22, 3) := by decide +kernel
theorem dX6_init_63 : decode cX6_init 63 = .ok (.aload_n 0, 1) := by decide +kernel
theorem dX6_init_64 : decode cX6_init 64 = .ok (.getfield 33, 3) := by decide +kernel
theorem dX6_init_67 : decode cX6_init 67 = .ok (.iload_n 1, 1) := by decide +kernel
theorem dX6_init_68 : decode cX6_init 68 = .ok (.new 9, 3) := by decide +kernel
theorem dX6_init_71 : decode cX6_init 71 = .ok (.dup, 1) := by decide +kernel
theorem dX6_init_72 : decode cX6_init 72 = .ok (.invokespecial 11, 3) := by decide +kernel
theorem dX6_init_75 : decode cX6_init 75 = .ok (.aastore, 1) := by decide +kernel
theorem dX6_init_76 : decode cX6_init 76 = .ok (.iinc 1 1, 3) := by decide +kernel
theorem dX6_init_79 : decode cX6_init 79 = .ok (.goto (-21), 3) := by decide +kernel
theorem dX6_init_82 : decode cX6_init 82 = .ok (.aload_n 0, 1) := by decide +kernel
theorem dX6_init_83 : decode cX6_init 83 = .ok (.iconst 2, 1) := by decide +kernel
theorem dX6_init_84 : decode cX6_init 84 = .ok (.newarray .boolean, 2) := by decide +kernel
theorem dX6_init_86 : decode cX6_init 86 = .ok (.putfield 37, 3) := by decide +kernel
theorem dX6_init_89 : decode cX6_init 89 = .ok (.aload_n 0, 1) := by decide +kernel
theorem dX6_init_90 : decode cX6_init 90 = .ok (.new 41, 3) := by decide +kernel
theorem dX6_init_93 : decode cX6_init 93 = .ok (.dup, 1) := by decide +kernel
theorem dX6_init_94 : decode cX6_init 94 = .ok (.invokespecial 43, 3) := by decide +kernel
theorem dX6_init_97 : decode cX6_init 97 = .ok (.putfield 44, 3) := by decide +kernel
theorem dX6_init_100 : decode cX6_init 100 = .ok (.aload_n 0, 1) := by decide +kernel
theorem dX6_init_101 : decode cX6_init 101 = .ok (.new 48, 3) := by decide +kernel
theorem dX6_init_104 : decode cX6_init 104 = .ok (.dup, 1) := by decide +kernel
theorem dX6_init_105 : decode cX6_init 105 = .ok (.invokespecial 50, 3) := by decide +kernel
theorem dX6_init_108 : decode cX6_init 108 = .ok (.putfield 51, 3) := by decide +kernel
theorem dX6_init_111 : decode cX6_init 111 = .ok (.aload_n 0, 1) := by decide +kernel
theorem dX6_init_112 : decode cX6_init 112 = .ok (.getfield 12, 3) := by decide +kernel
theorem dX6_init_115 : decode cX6_init 115 = .ok (.iconst 1, 1) := by decide +kernel
theorem dX6_init_116 : decode cX6_init 116 = .ok (.invokevirtual 55, 3) := by decide +kernel
theorem dX6_init_119 : decode cX6_init 119 = .ok (.aload_n 0, 1) := by decide +kernel
theorem dX6_init_120 : decode cX6_init 120 = .ok (.getfield 12, 3) := by decide +kernel
theorem dX6_init_123 : decode cX6_init 123 = .ok (.iconst 1, 1) := by decide +kernel
theorem dX6_init_124 : decode cX6_init 124 = .ok (.invokevirtual 55, 3) := by decide +kernel
theorem dX6_init_127 : decode cX6_init 127 = .ok (.aload_n 0, 1) := by decide +kernel
theorem dX6_init_128 : decode cX6_init 128 = .ok (.getfield 12, 3) := by decide +kernel
theorem dX6_init_131 : decode cX6_init 131 = .ok (.invokevirtual 59, 3) := by decide +kernel
theorem dX6_init_134 : decode cX6_init 134 = .ok (.aload_n 0, 1) := by decide +kernel
theorem dX6_init_135 : decode cX6_init 135 = .ok (.getfield 12, 3) := by decide +kernel
theorem dX6_init_138 : decode cX6_init 138 = .ok (.bipush 97, 2) := by decide +kernel
theorem dX6_init_140 : decode cX6_init 140 = .ok (.invokevirtual 62, 3) := by decide +kernel
theorem dX6_init_143 : decode cX6_init 143 = .ok (.aload_n 0, 1) := by decide +kernel
theorem dX6_init_144 : decode cX6_init 144 = .ok (.getfield 12, 3) := by decide +kernel
theorem dX6_init_147 : decode cX6_init 147 = .ok (.invokevirtual 59, 3) := by decide +kernel
theorem dX6_init_150 : decode cX6_init 150 = .ok (.aload_n 0, 1) := by decide +kernel
theorem dX6_init_151 : decode cX6_init 151 = .ok (.getfield 12, 3) := by decide +kernel
theorem dX6_init_154 : decode cX6_init 154 = .ok (.bipush 98, 2) := by decide +kernel
theorem dX6_init_156 : decode cX6_init 156 = .ok (.invokevirtual 62, 3) := by decide +kernel
theorem dX6_init_159 : decode cX6_init 159 = .ok (.return_, 1) := by decide +kernel
set_option maxHeartbeats 1000000 in
theorem nX6_init {W : zWd} {Q : zWd → Prop} (z96 : ∀ j : Int, 0 ≤ j → W 96 j = 0) (hq : ∀ V : zWd, V 96 0 = 1 → V 96 1 = 1 → V 96 2 = 1 → V 96 3 = 1 → V 96 4 = 1 → V 96 5 = 1 → V 96 6 = 1 → V 96 7 = 1 → zC0 V 0 → zC0 V 8 → zBg V → zBh V → V 110 0 = 1 → V 110 1 = 1 → zC0 V 80 → zC0 V 88 → V 111 0 = 0 → V 111 1 = 0 → V 112 0 = 1 → V 112 1 = 0 → V 112 6 = -1 → V 114 0 = 1 → V 114 1 = 0 → (∀ k : Nat, 116 ≤ k → V k = W k) → Q (zBeg V)) : EvN MX6_init 4 115 (1) W [.ref 96] Q := by
  refine ev_ofL (ls := [.ref 96, .null]) (by decide) rfl (fun _ => rfl) (fun _ => Nat.le_of_ble_eq_true rfl) ?_
  have out : ∀ k : Nat, 116 ≤ k → W k = W k := fun _ _ => rfl
  refine rl_aload_n (pc := 0) dX6_init_0 rfl ?_
  refine rl_obj (pc := 1) dX6_init_1 (zWs_in 155 (by decide +kernel) rfl) (zWs_in 156 (by decide +kernel) rfl) (zWs_in 157 (by decide +kernel) rfl) (by decide) (by decide) ?_
  refine rl_aload_n (pc := 4) dX6_init_4 rfl ?_
  refine rl_new (pc := 5) (ci := 0) (C := RX0) (T := TX0) (fs := fsX0) dX6_init_5 rfl (by decide) uwX0 tyX0_ok (zWs_in 158 (by decide +kernel) rfl) (zWs_in 159 (by decide +kernel) rfl) (zWs_in 130 (by decide +kernel) rfl) fsX0_ok rfl (fun _ _ => rfl) (by decide) (by omega) (Or.inl (zhc (k := 0) (n0 := 0) (c := 96) (j := 0) rfl rfl rfl (z96 _ (by decide)))) (zLv.r (j := 0) (by omega) rfl (zLv.n (zLv.nil))) (zLv.r (j := 0) (by omega) rfl (zLv.nil)) ?_
  rw [show zov 1 = 0 from rfl]
  refine rl_nm (w' := 114) (N' := 2) rfl rfl ?_
  refine rl_dup_r (pc := 8) dX6_init_8 ?_
  refine rl_ctorN (host := "HopscotchCourt") (M' := MX0_init) (d' := 2) (w' := 7) (k := 0) (As := []) (pc := 9) dX6_init_9 (zNst_in 160 (by decide +kernel) rfl) kX0_init (zWs_in 161 (by decide +kernel) rfl) rfl rfl (by decide) (by omega) (by decide) (Nat.le_of_ble_eq_true rfl) rfl (zLv.r (j := 0) (by omega) rfl (zLv.n (zLv.nil))) (zLv.r (j := 1) (by omega) rfl (zLv.r (j := 0) (by omega) rfl (zLv.nil))) (nX0_init zCt_0 zcn_1 (fun j => znew_s) (fun W1 o1 z1 => ?_))
  refine rl_nm (w' := 107) (N' := 9) rfl rfl ?_
  refine rl_putF (pc := 12) (j := 0) (n := 0) (x := 1) dX6_init_12 (C := RX6) (T := TX6) (ci := 6) rfl (by decide) (by decide) uwX6 tyX6_ok nmX6 (zWs_in 386 (by decide +kernel) rfl) rfl rfl rfl (ty := .object "HopscotchCourt$Court") (by decide +kernel) (fun _ => rfl) (fun _ => rfl) rfl (by omega) (by omega) rfl (zfw_r rfl) ?_
  refine rl_eqW (W₁ := zup W1 96 0 1) rfl ?_
  have a0 : zup W1 96 0 1 96 0 = 1 := zup_s
  have z96_ : ∀ i : Int, 1 ≤ i → zup W1 96 0 1 96 i = 0 := fun i gi => (zup_i (by omega)).trans ((congrFun (o1 96 (by omega)) _).trans ((znew_k (by decide)).trans (z96 i (by omega))))
  have out_ : ∀ k : Nat, 116 ≤ k → zup W1 96 0 1 k = W k := fun k gk => Eq.trans (by rw [zup_other k (by omega), o1 k (by omega), znew_o (by omega)]) (out k gk)
  have q0_ : zC0 (zup W1 96 0 1) 0 := z1.cg (fun k g1 g2 => zup_other k (by omega))
  generalize zup W1 96 0 1 = V0 at a0 q0_ z96_ out_ ⊢
  have q0 := q0_
  have z96 := z96_
  have out := out_
  refine rl_aload_n (pc := 15) dX6_init_15 rfl ?_
  refine rl_new (pc := 16) (ci := 0) (C := RX0) (T := TX0) (fs := fsX0) dX6_init_16 rfl (by decide) uwX0 tyX0_ok (zWs_in 158 (by decide +kernel) rfl) (zWs_in 159 (by decide +kernel) rfl) (zWs_in 130 (by decide +kernel) rfl) fsX0_ok rfl (fun _ _ => rfl) (by decide) (by omega) (Or.inl (zhc (k := 8) (n0 := 0) (c := 96) (j := 1) rfl rfl rfl (z96 _ (by decide)))) (zLv.r (j := 0) (by omega) rfl (zLv.n (zLv.nil))) (zLv.r (j := 0) (by omega) rfl (zLv.nil)) ?_
  rw [show zov 9 = 8 from rfl]
  refine rl_nm (w' := 106) (N' := 10) rfl rfl ?_
  refine rl_dup_r (pc := 19) dX6_init_19 ?_
  refine rl_ctorN (host := "HopscotchCourt") (M' := MX0_init) (d' := 2) (w' := 7) (k := 8) (As := []) (pc := 20) dX6_init_20 (zNst_in 160 (by decide +kernel) rfl) kX0_init (zWs_in 161 (by decide +kernel) rfl) rfl rfl (by decide) (by omega) (by decide) (Nat.le_of_ble_eq_true rfl) rfl (zLv.r (j := 0) (by omega) rfl (zLv.n (zLv.nil))) (zLv.r (j := 9) (by omega) rfl (zLv.r (j := 0) (by omega) rfl (zLv.nil))) (nX0_init zct_8 zcn_9 (fun j => znew_s) (fun W2 o2 z2 => ?_))
  refine rl_nm (w' := 99) (N' := 17) rfl rfl ?_
  refine rl_putF (pc := 23) (j := 1) (n := 0) (x := 1) dX6_init_23 (C := RX6) (T := TX6) (ci := 6) rfl (by decide) (by decide) uwX6 tyX6_ok nmX6 (zWs_in 387 (by decide +kernel) rfl) rfl rfl rfl (ty := .object "HopscotchCourt$Court") (by decide +kernel) (fun _ => rfl) (fun _ => rfl) rfl (by omega) (by omega) rfl (zfw_r rfl) ?_
  refine rl_eqW (W₁ := zup W2 96 1 1) rfl ?_
  have a1 : zup W2 96 1 1 96 1 = 1 := zup_s
  have a0_ : zup W2 96 1 1 96 0 = 1 := ((zup_i (by decide)).trans ((congrFun (o2 96 (by omega)) _).trans ((znew_k (by decide)).trans a0)))
  have q0_ : zC0 (zup W2 96 1 1) 0 := q0.cg (fun k g1 g2 => by rw [zup_other k (by omega), o2 k (by omega), znew_o (by omega)])
  have z96_ : ∀ i : Int, 2 ≤ i → zup W2 96 1 1 96 i = 0 := fun i gi => (zup_i (by omega)).trans ((congrFun (o2 96 (by omega)) _).trans ((znew_k (by decide)).trans (z96 i (by omega))))
  have out_ : ∀ k : Nat, 116 ≤ k → zup W2 96 1 1 k = W k := fun k gk => Eq.trans (by rw [zup_other k (by omega), o2 k (by omega), znew_o (by omega)]) (out k gk)
  have q8_ : zC0 (zup W2 96 1 1) 8 := z2.cg (fun k g1 g2 => zup_other k (by omega))
  generalize zup W2 96 1 1 = V1 at a1 a0_ q0_ q8_ z96_ out_ ⊢
  have a0 := a0_
  have q0 := q0_
  have q8 := q8_
  have z96 := z96_
  have out := out_
  refine rl_aload_n (pc := 26) dX6_init_26 rfl ?_
  refine rl_new (pc := 27) (ci := 1) (C := RX1) (T := TX1) (fs := fsX1) dX6_init_27 rfl (by decide) uwX1 tyX1_ok (zWs_in 243 (by decide +kernel) rfl) (zWs_in 244 (by decide +kernel) rfl) (zWs_in 131 (by decide +kernel) rfl) fsX1_ok rfl (fun _ _ => rfl) (by decide) (by omega) (Or.inl (zhc (k := 97) (n0 := 0) (c := 96) (j := 2) rfl rfl rfl (z96 _ (by decide)))) (zLv.r (j := 0) (by omega) rfl (zLv.n (zLv.nil))) (zLv.r (j := 0) (by omega) rfl (zLv.nil)) ?_
  rw [show zov 17 = 97 from rfl]
  refine rl_nm (w' := 98) (N' := 18) rfl rfl ?_
  refine rl_dup_r (pc := 30) dX6_init_30 ?_
  refine rl_ctorN (host := "HopscotchCourt") (M' := MX1_init) (d' := 2) (w' := 10) (k := 97) (As := []) (pc := 31) dX6_init_31 (zNst_in 245 (by decide +kernel) rfl) kX1_init (zWs_in 246 (by decide +kernel) rfl) rfl rfl (by decide) (by omega) (by decide) (Nat.le_of_ble_eq_true rfl) rfl (zLv.r (j := 0) (by omega) rfl (zLv.n (zLv.nil))) (zLv.r (j := 17) (by omega) rfl (zLv.r (j := 0) (by omega) rfl (zLv.nil))) (nX1_init (fun j => znew_s) (fun W3 o3 z3 => ?_))
  refine rl_nm (w' := 88) (N' := 28) rfl rfl ?_
  refine rl_putF (pc := 34) (j := 2) (n := 0) (x := 1) dX6_init_34 (C := RX6) (T := TX6) (ci := 6) rfl (by decide) (by decide) uwX6 tyX6_ok nmX6 (zWs_in 388 (by decide +kernel) rfl) rfl rfl rfl (ty := .object "HopscotchCourt$Game") (by decide +kernel) (fun _ => rfl) (fun _ => rfl) rfl (by omega) (by omega) rfl (zfw_r rfl) ?_
  refine rl_eqW (W₁ := zup W3 96 2 1) rfl ?_
  have a2 : zup W3 96 2 1 96 2 = 1 := zup_s
  have a0_ : zup W3 96 2 1 96 0 = 1 := ((zup_i (by decide)).trans ((congrFun (o3 96 (by omega)) _).trans ((znew_k (by decide)).trans a0)))
  have q0_ : zC0 (zup W3 96 2 1) 0 := q0.cg (fun k g1 g2 => by rw [zup_other k (by omega), o3 k (by omega), znew_o (by omega)])
  have a1_ : zup W3 96 2 1 96 1 = 1 := ((zup_i (by decide)).trans ((congrFun (o3 96 (by omega)) _).trans ((znew_k (by decide)).trans a1)))
  have q8_ : zC0 (zup W3 96 2 1) 8 := q8.cg (fun k g1 g2 => by rw [zup_other k (by omega), o3 k (by omega), znew_o (by omega)])
  have z96_ : ∀ i : Int, 3 ≤ i → zup W3 96 2 1 96 i = 0 := fun i gi => (zup_i (by omega)).trans ((congrFun (o3 96 (by omega)) _).trans ((znew_k (by decide)).trans (z96 i (by omega))))
  have out_ : ∀ k : Nat, 116 ≤ k → zup W3 96 2 1 k = W k := fun k gk => Eq.trans (by rw [zup_other k (by omega), o3 k (by omega), znew_o (by omega)]) (out k gk)
  have qg_ : zBg (zup W3 96 2 1) := z3.cg (fun k g1 g2 => zup_other k (by omega))
  generalize zup W3 96 2 1 = V2 at a2 a0_ q0_ a1_ q8_ qg_ z96_ out_ ⊢
  have a0 := a0_
  have q0 := q0_
  have a1 := a1_
  have q8 := q8_
  have qg := qg_
  have z96 := z96_
  have out := out_
  refine rl_aload_n (pc := 37) dX6_init_37 rfl ?_
  refine rl_new (pc := 38) (ci := 2) (C := RX2) (T := TX2) (fs := fsX2) dX6_init_38 rfl (by decide) uwX2 tyX2_ok (zWs_in 303 (by decide +kernel) rfl) (zWs_in 304 (by decide +kernel) rfl) (zWs_in 133 (by decide +kernel) rfl) fsX2_ok rfl (fun _ _ => rfl) (by decide) (by omega) (Or.inl (zhc (k := 108) (n0 := 0) (c := 96) (j := 3) rfl rfl rfl (z96 _ (by decide)))) (zLv.r (j := 0) (by omega) rfl (zLv.n (zLv.nil))) (zLv.r (j := 0) (by omega) rfl (zLv.nil)) ?_
  rw [show zov 28 = 108 from rfl]
  refine rl_nm (w' := 87) (N' := 29) rfl rfl ?_
  refine rl_dup_r (pc := 41) dX6_init_41 ?_
  refine rl_ctorN (host := "HopscotchCourt") (M' := MX2_init) (d' := 3) (w' := 65) (k := 108) (As := []) (pc := 42) dX6_init_42 (zNst_in 305 (by decide +kernel) rfl) kX2_init (zWs_in 306 (by decide +kernel) rfl) rfl rfl (by decide) (by omega) (by decide) (Nat.le_of_ble_eq_true rfl) rfl (zLv.r (j := 0) (by omega) rfl (zLv.n (zLv.nil))) (zLv.r (j := 28) (by omega) rfl (zLv.r (j := 0) (by omega) rfl (zLv.nil))) (nX2_init (fun j => znew_s) (fun W4 o4 z4 => ?_))
  refine rl_nm (w' := 22) (N' := 94) rfl rfl ?_
  refine rl_putF (pc := 45) (j := 3) (n := 0) (x := 1) dX6_init_45 (C := RX6) (T := TX6) (ci := 6) rfl (by decide) (by decide) uwX6 tyX6_ok nmX6 (zWs_in 389 (by decide +kernel) rfl) rfl rfl rfl (ty := .object "HopscotchCourt$History") (by decide +kernel) (fun _ => rfl) (fun _ => rfl) rfl (by omega) (by omega) rfl (zfw_r rfl) ?_
  refine rl_eqW (W₁ := zup W4 96 3 1) rfl ?_
  have a3 : zup W4 96 3 1 96 3 = 1 := zup_s
  have a0_ : zup W4 96 3 1 96 0 = 1 := ((zup_i (by decide)).trans ((congrFun (o4 96 (by omega) (by omega) (by omega)) _).trans ((znew_k (by decide)).trans a0)))
  have q0_ : zC0 (zup W4 96 3 1) 0 := q0.cg (fun k g1 g2 => by rw [zup_other k (by omega), o4 k (by omega) (by omega) (by omega), znew_o (by omega)])
  have a1_ : zup W4 96 3 1 96 1 = 1 := ((zup_i (by decide)).trans ((congrFun (o4 96 (by omega) (by omega) (by omega)) _).trans ((znew_k (by decide)).trans a1)))
  have q8_ : zC0 (zup W4 96 3 1) 8 := q8.cg (fun k g1 g2 => by rw [zup_other k (by omega), o4 k (by omega) (by omega) (by omega), znew_o (by omega)])
  have a2_ : zup W4 96 3 1 96 2 = 1 := ((zup_i (by decide)).trans ((congrFun (o4 96 (by omega) (by omega) (by omega)) _).trans ((znew_k (by decide)).trans a2)))
  have qg_ : zBg (zup W4 96 3 1) := qg.cg (fun k g1 g2 => by rw [zup_other k (by omega), o4 k (by omega) (by omega) (by omega), znew_o (by omega)])
  have z96_ : ∀ i : Int, 4 ≤ i → zup W4 96 3 1 96 i = 0 := fun i gi => (zup_i (by omega)).trans ((congrFun (o4 96 (by omega) (by omega) (by omega)) _).trans ((znew_k (by decide)).trans (z96 i (by omega))))
  have out_ : ∀ k : Nat, 116 ≤ k → zup W4 96 3 1 k = W k := fun k gk => Eq.trans (by rw [zup_other k (by omega), o4 k (by omega) (by omega) (by omega), znew_o (by omega)]) (out k gk)
  have qh_ : zBh (zup W4 96 3 1) := z4.cg (fun k g => zup_other k (by omega))
  generalize zup W4 96 3 1 = V3 at a3 a0_ q0_ a1_ q8_ a2_ qg_ qh_ z96_ out_ ⊢
  have a0 := a0_
  have q0 := q0_
  have a1 := a1_
  have q8 := q8_
  have a2 := a2_
  have qg := qg_
  have qh := qh_
  have z96 := z96_
  have out := out_
  refine rl_aload_n (pc := 48) dX6_init_48 rfl ?_
  refine rl_iconst (n := 2) dX6_init_49 ?_
  refine rl_newq (pc := 50) (n := 2) dX6_init_50 (zWs_in 158 (by decide +kernel) rfl) rfl (by omega) (Or.inl (zhc (k := 110) (n0 := 0) (c := 96) (j := 4) rfl rfl rfl (z96 _ (by decide)))) (zLv.r (j := 0) (by omega) rfl (zLv.n (zLv.nil))) (zLv.r (j := 0) (by omega) rfl (zLv.nil)) (by decide) ?_
  rw [show zov 94 = 110 from rfl]
  refine rl_nm (w' := 21) (N' := 95) rfl rfl ?_
  refine rl_putF (pc := 53) (j := 4) (n := 0) (x := 1) dX6_init_53 (C := RX6) (T := TX6) (ci := 6) rfl (by decide) (by decide) uwX6 tyX6_ok nmX6 (zWs_in 390 (by decide +kernel) rfl) rfl rfl rfl (ty := .array (.object "HopscotchCourt$Court")) (by decide +kernel) (fun _ => rfl) (fun _ => rfl) rfl (by omega) (by omega) rfl (zfw_r rfl) ?_
  refine rl_eqW (W₁ := zup (znew V3 110) 96 4 1) rfl ?_
  have a4 : zup (znew V3 110) 96 4 1 96 4 = 1 := zup_s
  have a0_ : zup (znew V3 110) 96 4 1 96 0 = 1 := ((zup_i (by decide)).trans ((znew_k (by decide)).trans a0))
  have q0_ : zC0 (zup (znew V3 110) 96 4 1) 0 := q0.cg (fun k g1 g2 => by rw [zup_other k (by omega), znew_o (by omega)])
  have a1_ : zup (znew V3 110) 96 4 1 96 1 = 1 := ((zup_i (by decide)).trans ((znew_k (by decide)).trans a1))
  have q8_ : zC0 (zup (znew V3 110) 96 4 1) 8 := q8.cg (fun k g1 g2 => by rw [zup_other k (by omega), znew_o (by omega)])
  have a2_ : zup (znew V3 110) 96 4 1 96 2 = 1 := ((zup_i (by decide)).trans ((znew_k (by decide)).trans a2))
  have qg_ : zBg (zup (znew V3 110) 96 4 1) := qg.cg (fun k g1 g2 => by rw [zup_other k (by omega), znew_o (by omega)])
  have a3_ : zup (znew V3 110) 96 4 1 96 3 = 1 := ((zup_i (by decide)).trans ((znew_k (by decide)).trans a3))
  have qh_ : zBh (zup (znew V3 110) 96 4 1) := qh.cg (fun k g => by rw [zup_other k (by omega), znew_o (by omega)])
  have z96_ : ∀ i : Int, 5 ≤ i → zup (znew V3 110) 96 4 1 96 i = 0 := fun i gi => (zup_i (by omega)).trans ((znew_k (by decide)).trans (z96 i (by omega)))
  have out_ : ∀ k : Nat, 116 ≤ k → zup (znew V3 110) 96 4 1 k = W k := fun k gk => Eq.trans (by rw [zup_other k (by omega), znew_o (by omega)]) (out k gk)
  have s0_ : zup (znew V3 110) 96 4 1 110 0 = 0 := (zup_k (by decide)).trans znew_s
  have s1_ : zup (znew V3 110) 96 4 1 110 1 = 0 := (zup_k (by decide)).trans znew_s
  generalize zup (znew V3 110) 96 4 1 = V4 at a4 a0_ q0_ a1_ q8_ a2_ qg_ a3_ qh_ s0_ s1_ z96_ out_ ⊢
  have a0 := a0_
  have q0 := q0_
  have a1 := a1_
  have q8 := q8_
  have a2 := a2_
  have qg := qg_
  have a3 := a3_
  have qh := qh_
  have s0 := s0_
  have s1 := s1_
  have z96 := z96_
  have out := out_
  refine rl_iconst (n := 0) dX6_init_56 ?_
  refine rl_istore_n (pc := 57) dX6_init_57 (by decide) ?_
  refine rl_iload_n (pc := 58) dX6_init_58 rfl ?_
  refine rl_iconst (n := 2) dX6_init_59 ?_
  refine rl_icmp_ge (pc := 60) (tgt := 82) dX6_init_60 (by decide) (by unfold zR; omega) (by unfold zR; omega)  (fun h60 => ?_) (fun h60 => ?_)
  · exact absurd h60 (by decide)
  · refine rl_aload_n (pc := 63) dX6_init_63 rfl ?_
    refine rl_getR (pc := 64) (n := 0) dX6_init_64 fX6_33 rfl (by omega) rfl rfl (zset1 a4) ?_
    refine rl_iload_n (pc := 67) dX6_init_67 rfl ?_
    refine rl_new (pc := 68) (ci := 0) (C := RX0) (T := TX0) (fs := fsX0) dX6_init_68 rfl (by decide) uwX0 tyX0_ok (zWs_in 158 (by decide +kernel) rfl) (zWs_in 159 (by decide +kernel) rfl) (zWs_in 130 (by decide +kernel) rfl) fsX0_ok rfl (fun _ _ => rfl) (by decide) (by omega) (Or.inl (zhc (k := 80) (n0 := 94) (c := 110) (j := 0) rfl rfl rfl s0)) (zLv.r (j := 0) (by omega) rfl (zLv.i (zLv.nil))) (zLv.i (zLv.r (j := 94) (by omega) rfl (zLv.nil))) ?_
    rw [show zov 95 = 80 from rfl]
    refine rl_nm (w' := 20) (N' := 96) rfl rfl ?_
    refine rl_dup_r (pc := 71) dX6_init_71 ?_
    refine rl_ctorN (host := "HopscotchCourt") (M' := MX0_init) (d' := 2) (w' := 7) (k := 80) (As := []) (pc := 72) dX6_init_72 (zNst_in 160 (by decide +kernel) rfl) kX0_init (zWs_in 161 (by decide +kernel) rfl) rfl rfl (by decide) (by omega) (by decide) (Nat.le_of_ble_eq_true rfl) rfl (zLv.r (j := 0) (by omega) rfl (zLv.i (zLv.nil))) (zLv.r (j := 95) (by omega) rfl (zLv.i (zLv.r (j := 94) (by omega) rfl (zLv.nil)))) (nX0_init zct_80 zcn_95 (fun j => znew_s) (fun W5 o5 z5 => ?_))
    refine rl_nm (w' := 13) (N' := 103) rfl rfl ?_
    refine rl_aast (pc := 75) (ix := 94) (kc := 95) dX6_init_75 rfl (by omega) (by omega) rfl (by omega) (by omega) rfl (by omega) rfl rfl ?_
    refine rl_eqW (W₁ := zup W5 110 0 1) rfl ?_
    have a0_ : zup W5 110 0 1 96 0 = 1 := ((zup_k (by decide)).trans ((congrFun (o5 96 (by omega)) _).trans ((znew_k (by decide)).trans a0)))
    have q0_ : zC0 (zup W5 110 0 1) 0 := q0.cg (fun k g1 g2 => by rw [zup_other k (by omega), o5 k (by omega), znew_o (by omega)])
    have a1_ : zup W5 110 0 1 96 1 = 1 := ((zup_k (by decide)).trans ((congrFun (o5 96 (by omega)) _).trans ((znew_k (by decide)).trans a1)))
    have q8_ : zC0 (zup W5 110 0 1) 8 := q8.cg (fun k g1 g2 => by rw [zup_other k (by omega), o5 k (by omega), znew_o (by omega)])
    have a2_ : zup W5 110 0 1 96 2 = 1 := ((zup_k (by decide)).trans ((congrFun (o5 96 (by omega)) _).trans ((znew_k (by decide)).trans a2)))
    have qg_ : zBg (zup W5 110 0 1) := qg.cg (fun k g1 g2 => by rw [zup_other k (by omega), o5 k (by omega), znew_o (by omega)])
    have a3_ : zup W5 110 0 1 96 3 = 1 := ((zup_k (by decide)).trans ((congrFun (o5 96 (by omega)) _).trans ((znew_k (by decide)).trans a3)))
    have qh_ : zBh (zup W5 110 0 1) := qh.cg (fun k g => by rw [zup_other k (by omega), o5 k (by omega), znew_o (by omega)])
    have a4_ : zup W5 110 0 1 96 4 = 1 := ((zup_k (by decide)).trans ((congrFun (o5 96 (by omega)) _).trans ((znew_k (by decide)).trans a4)))
    have s0_ : zup W5 110 0 1 110 0 = 1 := zup_s
    have s1_ : zup W5 110 0 1 110 1 = 0 := ((zup_i (by decide)).trans ((congrFun (o5 110 (by omega)) _).trans ((znew_k (by decide)).trans s1)))
    have z96_ : ∀ j : Int, 5 ≤ j → zup W5 110 0 1 96 j = 0 := fun j gj => ((zup_k (by decide)).trans ((congrFun (o5 96 (by omega)) _).trans ((znew_k (by decide)).trans (z96 j gj))))
    have out_ : ∀ k : Nat, 116 ≤ k → zup W5 110 0 1 k = W k := fun k gk => Eq.trans (by rw [zup_other k (by omega), o5 k (by omega), znew_o (by omega)]) (out k gk)
    have c80_ : zC0 (zup W5 110 0 1) 80 := z5.cg (fun k g1 g2 => zup_other k (by omega))
    generalize zup W5 110 0 1 = U0 at a0_ q0_ a1_ q8_ a2_ qg_ a3_ qh_ a4_ s0_ s1_ c80_ z96_ out_ ⊢
    have a0 := a0_
    have q0 := q0_
    have a1 := a1_
    have q8 := q8_
    have a2 := a2_
    have qg := qg_
    have a3 := a3_
    have qh := qh_
    have a4 := a4_
    have s0 := s0_
    have s1 := s1_
    have c80 := c80_
    have z96 := z96_
    have out := out_
    refine rl_iinc (pc := 76) dX6_init_76 rfl (by decide) ?_
    refine rl_goto (pc := 79) (tgt := 58) dX6_init_79 (by decide) ?_
    refine rl_iload_n (pc := 58) dX6_init_58 rfl ?_
    refine rl_iconst (n := 2) dX6_init_59 ?_
    refine rl_icmp_ge (pc := 60) (tgt := 82) dX6_init_60 (by decide) (by unfold zR; omega) (by unfold zR; omega)  (fun h60 => ?_) (fun h60 => ?_)
    · exact absurd h60 (by decide)
    · refine rl_aload_n (pc := 63) dX6_init_63 rfl ?_
      refine rl_getR (pc := 64) (n := 0) dX6_init_64 fX6_33 rfl (by omega) rfl rfl (zset1 a4) ?_
      refine rl_iload_n (pc := 67) dX6_init_67 rfl ?_
      refine rl_new (pc := 68) (ci := 0) (C := RX0) (T := TX0) (fs := fsX0) dX6_init_68 rfl (by decide) uwX0 tyX0_ok (zWs_in 158 (by decide +kernel) rfl) (zWs_in 159 (by decide +kernel) rfl) (zWs_in 130 (by decide +kernel) rfl) fsX0_ok rfl (fun _ _ => rfl) (by decide) (by omega) (Or.inl (zhc (k := 88) (n0 := 94) (c := 110) (j := 1) rfl rfl rfl s1)) (zLv.r (j := 0) (by omega) rfl (zLv.i (zLv.nil))) (zLv.i (zLv.r (j := 94) (by omega) rfl (zLv.nil))) ?_
      rw [show zov 103 = 88 from rfl]
      refine rl_nm (w' := 12) (N' := 104) rfl rfl ?_
      refine rl_dup_r (pc := 71) dX6_init_71 ?_
      refine rl_ctorN (host := "HopscotchCourt") (M' := MX0_init) (d' := 2) (w' := 7) (k := 88) (As := []) (pc := 72) dX6_init_72 (zNst_in 160 (by decide +kernel) rfl) kX0_init (zWs_in 161 (by decide +kernel) rfl) rfl rfl (by decide) (by omega) (by decide) (Nat.le_of_ble_eq_true rfl) rfl (zLv.r (j := 0) (by omega) rfl (zLv.i (zLv.nil))) (zLv.r (j := 103) (by omega) rfl (zLv.i (zLv.r (j := 94) (by omega) rfl (zLv.nil)))) (nX0_init zct_88 zcn_103 (fun j => znew_s) (fun W6 o6 z6 => ?_))
      refine rl_nm (w' := 5) (N' := 111) rfl rfl ?_
      refine rl_aast (pc := 75) (ix := 94) (kc := 103) dX6_init_75 rfl (by omega) (by omega) rfl (by omega) (by omega) rfl (by omega) rfl rfl ?_
      refine rl_eqW (W₁ := zup W6 110 1 1) rfl ?_
      have a0_ : zup W6 110 1 1 96 0 = 1 := ((zup_k (by decide)).trans ((congrFun (o6 96 (by omega)) _).trans ((znew_k (by decide)).trans a0)))
      have q0_ : zC0 (zup W6 110 1 1) 0 := q0.cg (fun k g1 g2 => by rw [zup_other k (by omega), o6 k (by omega), znew_o (by omega)])
      have a1_ : zup W6 110 1 1 96 1 = 1 := ((zup_k (by decide)).trans ((congrFun (o6 96 (by omega)) _).trans ((znew_k (by decide)).trans a1)))
      have q8_ : zC0 (zup W6 110 1 1) 8 := q8.cg (fun k g1 g2 => by rw [zup_other k (by omega), o6 k (by omega), znew_o (by omega)])
      have a2_ : zup W6 110 1 1 96 2 = 1 := ((zup_k (by decide)).trans ((congrFun (o6 96 (by omega)) _).trans ((znew_k (by decide)).trans a2)))
      have qg_ : zBg (zup W6 110 1 1) := qg.cg (fun k g1 g2 => by rw [zup_other k (by omega), o6 k (by omega), znew_o (by omega)])
      have a3_ : zup W6 110 1 1 96 3 = 1 := ((zup_k (by decide)).trans ((congrFun (o6 96 (by omega)) _).trans ((znew_k (by decide)).trans a3)))
      have qh_ : zBh (zup W6 110 1 1) := qh.cg (fun k g => by rw [zup_other k (by omega), o6 k (by omega), znew_o (by omega)])
      have a4_ : zup W6 110 1 1 96 4 = 1 := ((zup_k (by decide)).trans ((congrFun (o6 96 (by omega)) _).trans ((znew_k (by decide)).trans a4)))
      have s0_ : zup W6 110 1 1 110 0 = 1 := ((zup_i (by decide)).trans ((congrFun (o6 110 (by omega)) _).trans ((znew_k (by decide)).trans s0)))
      have s1_ : zup W6 110 1 1 110 1 = 1 := zup_s
      have c80_ : zC0 (zup W6 110 1 1) 80 := c80.cg (fun k g1 g2 => by rw [zup_other k (by omega), o6 k (by omega), znew_o (by omega)])
      have z96_ : ∀ j : Int, 5 ≤ j → zup W6 110 1 1 96 j = 0 := fun j gj => ((zup_k (by decide)).trans ((congrFun (o6 96 (by omega)) _).trans ((znew_k (by decide)).trans (z96 j gj))))
      have out_ : ∀ k : Nat, 116 ≤ k → zup W6 110 1 1 k = W k := fun k gk => Eq.trans (by rw [zup_other k (by omega), o6 k (by omega), znew_o (by omega)]) (out k gk)
      have c88_ : zC0 (zup W6 110 1 1) 88 := z6.cg (fun k g1 g2 => zup_other k (by omega))
      generalize zup W6 110 1 1 = U1 at a0_ q0_ a1_ q8_ a2_ qg_ a3_ qh_ a4_ s0_ s1_ c80_ c88_ z96_ out_ ⊢
      have a0 := a0_
      have q0 := q0_
      have a1 := a1_
      have q8 := q8_
      have a2 := a2_
      have qg := qg_
      have a3 := a3_
      have qh := qh_
      have a4 := a4_
      have s0 := s0_
      have s1 := s1_
      have c80 := c80_
      have c88 := c88_
      have z96 := z96_
      have out := out_
      refine rl_iinc (pc := 76) dX6_init_76 rfl (by decide) ?_
      refine rl_goto (pc := 79) (tgt := 58) dX6_init_79 (by decide) ?_
      refine rl_iload_n (pc := 58) dX6_init_58 rfl ?_
      refine rl_iconst (n := 2) dX6_init_59 ?_
      refine rl_icmp_ge (pc := 60) (tgt := 82) dX6_init_60 (by decide) (by unfold zR; omega) (by unfold zR; omega)  (fun h60 => ?_) (fun h60 => ?_)
      · refine rl_aload_n (pc := 82) dX6_init_82 rfl ?_
        refine rl_iconst (n := 2) dX6_init_83 ?_
        refine rl_newa_z (pc := 84) (n := 2) dX6_init_84 (zWs_in 354 (by decide +kernel) rfl) rfl (by omega) (Or.inl (zhc (k := 111) (n0 := 0) (c := 96) (j := 5) rfl rfl rfl (z96 _ (by decide)))) (zLv.r (j := 0) (by omega) rfl (zLv.i (zLv.nil))) (zLv.r (j := 0) (by omega) rfl (zLv.nil)) (by decide) ?_
        rw [show zov 111 = 111 from rfl]
        refine rl_nm (w' := 4) (N' := 112) rfl rfl ?_
        refine rl_putF (pc := 86) (j := 5) (n := 0) (x := 1) dX6_init_86 (C := RX6) (T := TX6) (ci := 6) rfl (by decide) (by decide) uwX6 tyX6_ok nmX6 (zWs_in 391 (by decide +kernel) rfl) rfl rfl rfl (ty := .array .boolean) (by decide +kernel) (fun _ => rfl) (fun _ => rfl) rfl (by omega) (by omega) rfl (zfw_r rfl) ?_
        refine rl_eqW (W₁ := zup (znew U1 111) 96 5 1) rfl ?_
        have a5 : zup (znew U1 111) 96 5 1 96 5 = 1 := zup_s
        have a0_ : zup (znew U1 111) 96 5 1 96 0 = 1 := ((zup_i (by decide)).trans ((znew_k (by decide)).trans a0))
        have q0_ : zC0 (zup (znew U1 111) 96 5 1) 0 := q0.cg (fun k g1 g2 => by rw [zup_other k (by omega), znew_o (by omega)])
        have a1_ : zup (znew U1 111) 96 5 1 96 1 = 1 := ((zup_i (by decide)).trans ((znew_k (by decide)).trans a1))
        have q8_ : zC0 (zup (znew U1 111) 96 5 1) 8 := q8.cg (fun k g1 g2 => by rw [zup_other k (by omega), znew_o (by omega)])
        have a2_ : zup (znew U1 111) 96 5 1 96 2 = 1 := ((zup_i (by decide)).trans ((znew_k (by decide)).trans a2))
        have qg_ : zBg (zup (znew U1 111) 96 5 1) := qg.cg (fun k g1 g2 => by rw [zup_other k (by omega), znew_o (by omega)])
        have a3_ : zup (znew U1 111) 96 5 1 96 3 = 1 := ((zup_i (by decide)).trans ((znew_k (by decide)).trans a3))
        have qh_ : zBh (zup (znew U1 111) 96 5 1) := qh.cg (fun k g => by rw [zup_other k (by omega), znew_o (by omega)])
        have a4_ : zup (znew U1 111) 96 5 1 96 4 = 1 := ((zup_i (by decide)).trans ((znew_k (by decide)).trans a4))
        have s0_ : zup (znew U1 111) 96 5 1 110 0 = 1 := ((zup_k (by decide)).trans ((znew_k (by decide)).trans s0))
        have s1_ : zup (znew U1 111) 96 5 1 110 1 = 1 := ((zup_k (by decide)).trans ((znew_k (by decide)).trans s1))
        have c80_ : zC0 (zup (znew U1 111) 96 5 1) 80 := c80.cg (fun k g1 g2 => by rw [zup_other k (by omega), znew_o (by omega)])
        have c88_ : zC0 (zup (znew U1 111) 96 5 1) 88 := c88.cg (fun k g1 g2 => by rw [zup_other k (by omega), znew_o (by omega)])
        have z96_ : ∀ i : Int, 6 ≤ i → zup (znew U1 111) 96 5 1 96 i = 0 := fun i gi => (zup_i (by omega)).trans ((znew_k (by decide)).trans (z96 i (by omega)))
        have out_ : ∀ k : Nat, 116 ≤ k → zup (znew U1 111) 96 5 1 k = W k := fun k gk => Eq.trans (by rw [zup_other k (by omega), znew_o (by omega)]) (out k gk)
        have i0_ : zup (znew U1 111) 96 5 1 111 0 = 0 := (zup_k (by decide)).trans znew_s
        have i1_ : zup (znew U1 111) 96 5 1 111 1 = 0 := (zup_k (by decide)).trans znew_s
        generalize zup (znew U1 111) 96 5 1 = V5 at a5 a0_ q0_ a1_ q8_ a2_ qg_ a3_ qh_ a4_ s0_ s1_ c80_ c88_ i0_ i1_ z96_ out_ ⊢
        have a0 := a0_
        have q0 := q0_
        have a1 := a1_
        have q8 := q8_
        have a2 := a2_
        have qg := qg_
        have a3 := a3_
        have qh := qh_
        have a4 := a4_
        have s0 := s0_
        have s1 := s1_
        have c80 := c80_
        have c88 := c88_
        have i0 := i0_
        have i1 := i1_
        have z96 := z96_
        have out := out_
        refine rl_aload_n (pc := 89) dX6_init_89 rfl ?_
        refine rl_new (pc := 90) (ci := 3) (C := RX3) (T := TX3) (fs := fsX3) dX6_init_90 rfl (by decide) uwX3 tyX3_ok (zWs_in 323 (by decide +kernel) rfl) (zWs_in 324 (by decide +kernel) rfl) (zWs_in 134 (by decide +kernel) rfl) fsX3_ok rfl (fun _ _ => rfl) (by decide) (by omega) (Or.inl (zhc (k := 112) (n0 := 0) (c := 96) (j := 6) rfl rfl rfl (z96 _ (by decide)))) (zLv.r (j := 0) (by omega) rfl (zLv.i (zLv.nil))) (zLv.r (j := 0) (by omega) rfl (zLv.nil)) ?_
        rw [show zov 112 = 112 from rfl]
        refine rl_nm (w' := 3) (N' := 113) rfl rfl ?_
        refine rl_dup_r (pc := 93) dX6_init_93 ?_
        refine rl_ctorN (host := "HopscotchCourt") (M' := MX3_init) (d' := 1) (w' := 1) (k := 112) (As := []) (pc := 94) dX6_init_94 (zNst_in 325 (by decide +kernel) rfl) kX3_init (zWs_in 326 (by decide +kernel) rfl) rfl rfl (by decide) (by omega) (by decide) (Nat.le_of_ble_eq_true rfl) rfl (zLv.r (j := 0) (by omega) rfl (zLv.i (zLv.nil))) (zLv.r (j := 112) (by omega) rfl (zLv.r (j := 0) (by omega) rfl (zLv.nil))) (nX3_init (fun j => znew_s) (fun W7 o7 x0 x1 x6 => ?_))
        refine rl_nm (w' := 2) (N' := 114) rfl rfl ?_
        refine rl_putF (pc := 97) (j := 6) (n := 0) (x := 1) dX6_init_97 (C := RX6) (T := TX6) (ci := 6) rfl (by decide) (by decide) uwX6 tyX6_ok nmX6 (zWs_in 392 (by decide +kernel) rfl) rfl rfl rfl (ty := .object "HopscotchCourt$Reader") (by decide +kernel) (fun _ => rfl) (fun _ => rfl) rfl (by omega) (by omega) rfl (zfw_r rfl) ?_
        refine rl_eqW (W₁ := zup W7 96 6 1) rfl ?_
        have a6 : zup W7 96 6 1 96 6 = 1 := zup_s
        have a0_ : zup W7 96 6 1 96 0 = 1 := ((zup_i (by decide)).trans ((congrFun (o7 96 (by omega)) _).trans ((znew_k (by decide)).trans a0)))
        have q0_ : zC0 (zup W7 96 6 1) 0 := q0.cg (fun k g1 g2 => by rw [zup_other k (by omega), o7 k (by omega), znew_o (by omega)])
        have a1_ : zup W7 96 6 1 96 1 = 1 := ((zup_i (by decide)).trans ((congrFun (o7 96 (by omega)) _).trans ((znew_k (by decide)).trans a1)))
        have q8_ : zC0 (zup W7 96 6 1) 8 := q8.cg (fun k g1 g2 => by rw [zup_other k (by omega), o7 k (by omega), znew_o (by omega)])
        have a2_ : zup W7 96 6 1 96 2 = 1 := ((zup_i (by decide)).trans ((congrFun (o7 96 (by omega)) _).trans ((znew_k (by decide)).trans a2)))
        have qg_ : zBg (zup W7 96 6 1) := qg.cg (fun k g1 g2 => by rw [zup_other k (by omega), o7 k (by omega), znew_o (by omega)])
        have a3_ : zup W7 96 6 1 96 3 = 1 := ((zup_i (by decide)).trans ((congrFun (o7 96 (by omega)) _).trans ((znew_k (by decide)).trans a3)))
        have qh_ : zBh (zup W7 96 6 1) := qh.cg (fun k g => by rw [zup_other k (by omega), o7 k (by omega), znew_o (by omega)])
        have a4_ : zup W7 96 6 1 96 4 = 1 := ((zup_i (by decide)).trans ((congrFun (o7 96 (by omega)) _).trans ((znew_k (by decide)).trans a4)))
        have s0_ : zup W7 96 6 1 110 0 = 1 := ((zup_k (by decide)).trans ((congrFun (o7 110 (by omega)) _).trans ((znew_k (by decide)).trans s0)))
        have s1_ : zup W7 96 6 1 110 1 = 1 := ((zup_k (by decide)).trans ((congrFun (o7 110 (by omega)) _).trans ((znew_k (by decide)).trans s1)))
        have c80_ : zC0 (zup W7 96 6 1) 80 := c80.cg (fun k g1 g2 => by rw [zup_other k (by omega), o7 k (by omega), znew_o (by omega)])
        have c88_ : zC0 (zup W7 96 6 1) 88 := c88.cg (fun k g1 g2 => by rw [zup_other k (by omega), o7 k (by omega), znew_o (by omega)])
        have a5_ : zup W7 96 6 1 96 5 = 1 := ((zup_i (by decide)).trans ((congrFun (o7 96 (by omega)) _).trans ((znew_k (by decide)).trans a5)))
        have i0_ : zup W7 96 6 1 111 0 = 0 := ((zup_k (by decide)).trans ((congrFun (o7 111 (by omega)) _).trans ((znew_k (by decide)).trans i0)))
        have i1_ : zup W7 96 6 1 111 1 = 0 := ((zup_k (by decide)).trans ((congrFun (o7 111 (by omega)) _).trans ((znew_k (by decide)).trans i1)))
        have z96_ : ∀ i : Int, 7 ≤ i → zup W7 96 6 1 96 i = 0 := fun i gi => (zup_i (by omega)).trans ((congrFun (o7 96 (by omega)) _).trans ((znew_k (by decide)).trans (z96 i (by omega))))
        have out_ : ∀ k : Nat, 116 ≤ k → zup W7 96 6 1 k = W k := fun k gk => Eq.trans (by rw [zup_other k (by omega), o7 k (by omega), znew_o (by omega)]) (out k gk)
        have r0_ : zup W7 96 6 1 112 0 = 1 := (zup_k (by decide)).trans x0
        have r1_ : zup W7 96 6 1 112 1 = 0 := (zup_k (by decide)).trans x1
        have r6_ : zup W7 96 6 1 112 6 = -1 := (zup_k (by decide)).trans x6
        generalize zup W7 96 6 1 = V6 at a6 a0_ q0_ a1_ q8_ a2_ qg_ a3_ qh_ a4_ s0_ s1_ c80_ c88_ a5_ i0_ i1_ r0_ r1_ r6_ z96_ out_ ⊢
        have a0 := a0_
        have q0 := q0_
        have a1 := a1_
        have q8 := q8_
        have a2 := a2_
        have qg := qg_
        have a3 := a3_
        have qh := qh_
        have a4 := a4_
        have s0 := s0_
        have s1 := s1_
        have c80 := c80_
        have c88 := c88_
        have a5 := a5_
        have i0 := i0_
        have i1 := i1_
        have r0 := r0_
        have r1 := r1_
        have r6 := r6_
        have z96 := z96_
        have out := out_
        refine rl_aload_n (pc := 100) dX6_init_100 rfl ?_
        refine rl_new (pc := 101) (ci := 5) (C := RX5) (T := TX5) (fs := fsX5) dX6_init_101 rfl (by decide) uwX5 tyX5_ok (zWs_in 355 (by decide +kernel) rfl) (zWs_in 356 (by decide +kernel) rfl) (zWs_in 135 (by decide +kernel) rfl) fsX5_ok rfl (fun _ _ => rfl) (by decide) (by omega) (Or.inl (zhc (k := 114) (n0 := 0) (c := 96) (j := 7) rfl rfl rfl (z96 _ (by decide)))) (zLv.r (j := 0) (by omega) rfl (zLv.i (zLv.nil))) (zLv.r (j := 0) (by omega) rfl (zLv.nil)) ?_
        rw [show zov 114 = 114 from rfl]
        refine rl_nm (w' := 1) (N' := 115) rfl rfl ?_
        refine rl_dup_r (pc := 104) dX6_init_104 ?_
        refine rl_ctorN (host := "HopscotchCourt") (M' := MX5_init) (d' := 1) (w' := 1) (k := 114) (As := []) (pc := 105) dX6_init_105 (zNst_in 357 (by decide +kernel) rfl) kX5_init (zWs_in 358 (by decide +kernel) rfl) rfl rfl (by decide) (by omega) (by decide) (Nat.le_of_ble_eq_true rfl) rfl (zLv.r (j := 0) (by omega) rfl (zLv.i (zLv.nil))) (zLv.r (j := 114) (by omega) rfl (zLv.r (j := 0) (by omega) rfl (zLv.nil))) (nX5_init (fun j => znew_s) (fun W8 o8 y0 y1 => ?_))
        refine rl_nm (w' := 0) (N' := 116) rfl rfl ?_
        refine rl_putF (pc := 108) (j := 7) (n := 0) (x := 1) dX6_init_108 (C := RX6) (T := TX6) (ci := 6) rfl (by decide) (by decide) uwX6 tyX6_ok nmX6 (zWs_in 393 (by decide +kernel) rfl) rfl rfl rfl (ty := .object "HopscotchCourt$Writer") (by decide +kernel) (fun _ => rfl) (fun _ => rfl) rfl (by omega) (by omega) rfl (zfw_r rfl) ?_
        refine rl_eqW (W₁ := zup W8 96 7 1) rfl ?_
        have a7 : zup W8 96 7 1 96 7 = 1 := zup_s
        have a0_ : zup W8 96 7 1 96 0 = 1 := ((zup_i (by decide)).trans ((congrFun (o8 96 (by omega)) _).trans ((znew_k (by decide)).trans a0)))
        have q0_ : zC0 (zup W8 96 7 1) 0 := q0.cg (fun k g1 g2 => by rw [zup_other k (by omega), o8 k (by omega), znew_o (by omega)])
        have a1_ : zup W8 96 7 1 96 1 = 1 := ((zup_i (by decide)).trans ((congrFun (o8 96 (by omega)) _).trans ((znew_k (by decide)).trans a1)))
        have q8_ : zC0 (zup W8 96 7 1) 8 := q8.cg (fun k g1 g2 => by rw [zup_other k (by omega), o8 k (by omega), znew_o (by omega)])
        have a2_ : zup W8 96 7 1 96 2 = 1 := ((zup_i (by decide)).trans ((congrFun (o8 96 (by omega)) _).trans ((znew_k (by decide)).trans a2)))
        have qg_ : zBg (zup W8 96 7 1) := qg.cg (fun k g1 g2 => by rw [zup_other k (by omega), o8 k (by omega), znew_o (by omega)])
        have a3_ : zup W8 96 7 1 96 3 = 1 := ((zup_i (by decide)).trans ((congrFun (o8 96 (by omega)) _).trans ((znew_k (by decide)).trans a3)))
        have qh_ : zBh (zup W8 96 7 1) := qh.cg (fun k g => by rw [zup_other k (by omega), o8 k (by omega), znew_o (by omega)])
        have a4_ : zup W8 96 7 1 96 4 = 1 := ((zup_i (by decide)).trans ((congrFun (o8 96 (by omega)) _).trans ((znew_k (by decide)).trans a4)))
        have s0_ : zup W8 96 7 1 110 0 = 1 := ((zup_k (by decide)).trans ((congrFun (o8 110 (by omega)) _).trans ((znew_k (by decide)).trans s0)))
        have s1_ : zup W8 96 7 1 110 1 = 1 := ((zup_k (by decide)).trans ((congrFun (o8 110 (by omega)) _).trans ((znew_k (by decide)).trans s1)))
        have c80_ : zC0 (zup W8 96 7 1) 80 := c80.cg (fun k g1 g2 => by rw [zup_other k (by omega), o8 k (by omega), znew_o (by omega)])
        have c88_ : zC0 (zup W8 96 7 1) 88 := c88.cg (fun k g1 g2 => by rw [zup_other k (by omega), o8 k (by omega), znew_o (by omega)])
        have a5_ : zup W8 96 7 1 96 5 = 1 := ((zup_i (by decide)).trans ((congrFun (o8 96 (by omega)) _).trans ((znew_k (by decide)).trans a5)))
        have i0_ : zup W8 96 7 1 111 0 = 0 := ((zup_k (by decide)).trans ((congrFun (o8 111 (by omega)) _).trans ((znew_k (by decide)).trans i0)))
        have i1_ : zup W8 96 7 1 111 1 = 0 := ((zup_k (by decide)).trans ((congrFun (o8 111 (by omega)) _).trans ((znew_k (by decide)).trans i1)))
        have a6_ : zup W8 96 7 1 96 6 = 1 := ((zup_i (by decide)).trans ((congrFun (o8 96 (by omega)) _).trans ((znew_k (by decide)).trans a6)))
        have r0_ : zup W8 96 7 1 112 0 = 1 := ((zup_k (by decide)).trans ((congrFun (o8 112 (by omega)) _).trans ((znew_k (by decide)).trans r0)))
        have r1_ : zup W8 96 7 1 112 1 = 0 := ((zup_k (by decide)).trans ((congrFun (o8 112 (by omega)) _).trans ((znew_k (by decide)).trans r1)))
        have r6_ : zup W8 96 7 1 112 6 = -1 := ((zup_k (by decide)).trans ((congrFun (o8 112 (by omega)) _).trans ((znew_k (by decide)).trans r6)))
        have z96_ : ∀ i : Int, 8 ≤ i → zup W8 96 7 1 96 i = 0 := fun i gi => (zup_i (by omega)).trans ((congrFun (o8 96 (by omega)) _).trans ((znew_k (by decide)).trans (z96 i (by omega))))
        have out_ : ∀ k : Nat, 116 ≤ k → zup W8 96 7 1 k = W k := fun k gk => Eq.trans (by rw [zup_other k (by omega), o8 k (by omega), znew_o (by omega)]) (out k gk)
        have t0_ : zup W8 96 7 1 114 0 = 1 := (zup_k (by decide)).trans y0
        have t1_ : zup W8 96 7 1 114 1 = 0 := (zup_k (by decide)).trans y1
        generalize zup W8 96 7 1 = V7 at a7 a0_ q0_ a1_ q8_ a2_ qg_ a3_ qh_ a4_ s0_ s1_ c80_ c88_ a5_ i0_ i1_ a6_ r0_ r1_ r6_ t0_ t1_ z96_ out_ ⊢
        have a0 := a0_
        have q0 := q0_
        have a1 := a1_
        have q8 := q8_
        have a2 := a2_
        have qg := qg_
        have a3 := a3_
        have qh := qh_
        have a4 := a4_
        have s0 := s0_
        have s1 := s1_
        have c80 := c80_
        have c88 := c88_
        have a5 := a5_
        have i0 := i0_
        have i1 := i1_
        have a6 := a6_
        have r0 := r0_
        have r1 := r1_
        have r6 := r6_
        have t0 := t0_
        have t1 := t1_
        have z96 := z96_
        have out := out_
        refine rl_aload_n (pc := 111) dX6_init_111 rfl ?_
        refine rl_getR (pc := 112) (n := 0) dX6_init_112 fX6_12 rfl (by omega) rfl rfl (zset1 a0) ?_
        refine rl_iconst (n := 1) dX6_init_115 ?_
        refine rl_invN (host := "HopscotchCourt") (M' := MX0_addRow) (d' := 0) (w' := 0) (k := 0) (ik := 1) (As := [_]) (pc := 116) dX6_init_116 (zNst_in 370 (by decide +kernel) rfl) kX0_addRow vX0_addRow rfl (by decide) (by omega) rfl rfl (by decide) (by omega) (by decide) (Nat.le_of_ble_eq_true rfl) rfl (zLv.r (j := 0) (by omega) rfl (zLv.i (zLv.nil))) (zLv.nil) (nX0_addRow (r := 0) (q := 0) zCt_0 zcn_1 (by omega) (by omega) (fun j g0 g1 => (q0.2.1 j g0 g1)) (q0.1 _ (by decide) (by decide)) (q0.1 _ (by decide) (by decide)) (by decide) (by decide) (by decide) (by decide) ?_)
        refine rl_nm (w' := 0) (N' := 116) rfl rfl ?_
        refine rl_aload_n (pc := 119) dX6_init_119 rfl ?_
        refine rl_getR (pc := 120) (n := 0) dX6_init_120 fX6_12 rfl (by omega) rfl rfl (zset1 ((zup_k (by decide)).trans ((zup_k (by decide)).trans ((zup_k (by decide)).trans ((zup_k (by decide)).trans a0))))) ?_
        refine rl_iconst (n := 1) dX6_init_123 ?_
        refine rl_invN (host := "HopscotchCourt") (M' := MX0_addRow) (d' := 0) (w' := 0) (k := 0) (ik := 1) (As := [_]) (pc := 124) dX6_init_124 (zNst_in 370 (by decide +kernel) rfl) kX0_addRow vX0_addRow rfl (by decide) (by omega) rfl rfl (by decide) (by omega) (by decide) (Nat.le_of_ble_eq_true rfl) rfl (zLv.r (j := 0) (by omega) rfl (zLv.i (zLv.nil))) (zLv.nil) (nX0_addRow (r := (0 + 1)) (q := (0 + 1)) zCt_0 zcn_1 (by omega) (by omega) (fun j g0 g1 => ((zup_k (by decide)).trans ((zup_i (by omega)).trans ((zup_k (by decide)).trans ((zup_i (by omega)).trans (q0.2.1 j g0 g1)))))) ((zup_k (by decide)).trans zup_s) ((zup_k (by decide)).trans ((zup_i (by decide)).trans ((zup_k (by decide)).trans zup_s))) (by decide) (by decide) (by decide) (by decide) ?_)
        refine rl_nm (w' := 0) (N' := 116) rfl rfl ?_
        refine rl_aload_n (pc := 127) dX6_init_127 rfl ?_
        refine rl_getR (pc := 128) (n := 0) dX6_init_128 fX6_12 rfl (by omega) rfl rfl (zset1 ((zup_k (by decide)).trans ((zup_k (by decide)).trans ((zup_k (by decide)).trans ((zup_k (by decide)).trans ((zup_k (by decide)).trans ((zup_k (by decide)).trans ((zup_k (by decide)).trans ((zup_k (by decide)).trans a0))))))))) ?_
        refine rl_invN (host := "HopscotchCourt") (M' := MX0_addPlayer) (d' := 1) (w' := 0) (k := 0) (ik := 1) (As := []) (pc := 131) dX6_init_131 (zNst_in 374 (by decide +kernel) rfl) kX0_addPlayer vX0_addPlayer rfl (by decide) (by omega) rfl rfl (by decide) (by omega) (by decide) (Nat.le_of_ble_eq_true rfl) rfl (zLv.r (j := 0) (by omega) rfl (zLv.i (zLv.nil))) (zLv.nil) (nX0_addPlayer (x := 0) zCt_0 zcn_1 (by omega) (by omega) (fun j g0 g1 => ((zup_k (by decide)).trans ((zup_i (by omega)).trans ((zup_k (by decide)).trans ((zup_i (by omega)).trans ((zup_k (by decide)).trans ((zup_i (by omega)).trans ((zup_k (by decide)).trans ((zup_i (by omega)).trans (q0.2.1 j g0 g1)))))))))) ((zup_k (by decide)).trans ((zup_i (by decide)).trans ((zup_k (by decide)).trans ((zup_i (by decide)).trans ((zup_k (by decide)).trans ((zup_i (by decide)).trans ((zup_k (by decide)).trans ((zup_i (by decide)).trans (q0.1 _ (by decide) (by decide)))))))))) (by decide) (by decide) ((zup_k (by decide)).trans ((zup_k (by decide)).trans ((zup_k (by decide)).trans ((zup_k (by decide)).trans ((zup_k (by decide)).trans ((zup_k (by decide)).trans ((zup_k (by decide)).trans ((zup_k (by decide)).trans (congrFun q0.2.2.2.2.2.2.2.2 _))))))))) (fun i g0 g1 => ((zup_k (by decide)).trans ((zup_k (by decide)).trans ((zup_k (by decide)).trans ((zup_k (by decide)).trans ((zup_k (by decide)).trans ((zup_k (by decide)).trans ((zup_k (by decide)).trans ((zup_k (by decide)).trans (congrFun q0.2.2.2.2.2.2.1 _)))))))))) ?_)
        refine rl_nm (w' := 0) (N' := 116) rfl rfl ?_
        refine rl_aload_n (pc := 134) dX6_init_134 rfl ?_
        refine rl_getR (pc := 135) (n := 0) dX6_init_135 fX6_12 rfl (by omega) rfl rfl (zset1 ((zup_k (by decide)).trans ((zup_k (by decide)).trans ((zup_k (by decide)).trans ((zup_k (by decide)).trans ((zup_k (by decide)).trans ((zup_k (by decide)).trans ((zup_k (by decide)).trans ((zup_k (by decide)).trans ((zup_k (by decide)).trans ((zup_k (by decide)).trans ((zup_k (by decide)).trans ((zup_k (by decide)).trans ((zup_k (by decide)).trans a0)))))))))))))) ?_
        refine rl_bipush (n := (97)) dX6_init_138 ?_
        refine rl_invN (host := "HopscotchCourt") (M' := MX0_addLetter) (d' := 0) (w' := 0) (k := 0) (ik := 1) (As := [_]) (pc := 140) dX6_init_140 (zNst_in 382 (by decide +kernel) rfl) kX0_addLetter vX0_addLetter rfl (by decide) (by omega) rfl rfl (by decide) (by omega) (by decide) (Nat.le_of_ble_eq_true rfl) rfl (zLv.r (j := 0) (by omega) rfl (zLv.i (zLv.nil))) (zLv.nil) (nX0_addLetter (x := 0) (v := 97) zCt_0 zcn_1 (by omega) (by omega) (fun j g0 g1 => ((zup_k (by decide)).trans ((zup_k (by decide)).trans ((zup_k (by decide)).trans ((zup_k (by decide)).trans ((zup_i (by omega)).trans ((zup_k (by decide)).trans ((zup_i (by omega)).trans ((zup_k (by decide)).trans ((zup_i (by omega)).trans ((zup_k (by decide)).trans ((zup_i (by omega)).trans ((zup_k (by decide)).trans ((zup_i (by omega)).trans (q0.2.1 j g0 g1))))))))))))))) ((zup_k (by decide)).trans ((zup_k (by decide)).trans ((zup_k (by decide)).trans ((zup_k (by decide)).trans zup_s)))) (by decide) (by decide) ((zup_k (by decide)).trans ((zup_k (by decide)).trans ((zup_k (by decide)).trans ((zup_k (by decide)).trans ((zup_k (by decide)).trans ((zup_k (by decide)).trans ((zup_k (by decide)).trans ((zup_k (by decide)).trans ((zup_k (by decide)).trans ((zup_k (by decide)).trans ((zup_k (by decide)).trans ((zup_k (by decide)).trans ((zup_k (by decide)).trans (congrFun q0.2.2.2.2.2.2.2.2 _)))))))))))))) (by decide) (by decide) ?_)
        refine rl_nm (w' := 0) (N' := 116) rfl rfl ?_
        refine rl_aload_n (pc := 143) dX6_init_143 rfl ?_
        refine rl_getR (pc := 144) (n := 0) dX6_init_144 fX6_12 rfl (by omega) rfl rfl (zset1 ((zup_k (by decide)).trans ((zup_k (by decide)).trans ((zup_k (by decide)).trans ((zup_k (by decide)).trans ((zup_k (by decide)).trans ((zup_k (by decide)).trans ((zup_k (by decide)).trans ((zup_k (by decide)).trans ((zup_k (by decide)).trans ((zup_k (by decide)).trans ((zup_k (by decide)).trans ((zup_k (by decide)).trans ((zup_k (by decide)).trans ((zup_k (by decide)).trans ((zup_k (by decide)).trans a0)))))))))))))))) ?_
        refine rl_invN (host := "HopscotchCourt") (M' := MX0_addPlayer) (d' := 1) (w' := 0) (k := 0) (ik := 1) (As := []) (pc := 147) dX6_init_147 (zNst_in 374 (by decide +kernel) rfl) kX0_addPlayer vX0_addPlayer rfl (by decide) (by omega) rfl rfl (by decide) (by omega) (by decide) (Nat.le_of_ble_eq_true rfl) rfl (zLv.r (j := 0) (by omega) rfl (zLv.i (zLv.nil))) (zLv.nil) (nX0_addPlayer (x := (0 + 1)) zCt_0 zcn_1 (by omega) (by omega) (fun j g0 g1 => ((zup_k (by decide)).trans ((zup_k (by decide)).trans ((zup_k (by decide)).trans ((zup_k (by decide)).trans ((zup_k (by decide)).trans ((zup_k (by decide)).trans ((zup_i (by omega)).trans ((zup_k (by decide)).trans ((zup_i (by omega)).trans ((zup_k (by decide)).trans ((zup_i (by omega)).trans ((zup_k (by decide)).trans ((zup_i (by omega)).trans ((zup_k (by decide)).trans ((zup_i (by omega)).trans (q0.2.1 j g0 g1))))))))))))))))) ((zup_k (by decide)).trans ((zup_k (by decide)).trans ((zup_k (by decide)).trans ((zup_k (by decide)).trans ((zup_k (by decide)).trans ((zup_k (by decide)).trans zup_s)))))) (by decide) (by decide) ((zup_i (by decide)).trans ((zup_k (by decide)).trans ((zup_k (by decide)).trans ((zup_k (by decide)).trans ((zup_k (by decide)).trans ((zup_k (by decide)).trans ((zup_k (by decide)).trans ((zup_k (by decide)).trans ((zup_k (by decide)).trans ((zup_k (by decide)).trans ((zup_k (by decide)).trans ((zup_k (by decide)).trans ((zup_k (by decide)).trans ((zup_k (by decide)).trans ((zup_k (by decide)).trans (congrFun q0.2.2.2.2.2.2.2.2 _)))))))))))))))) (fun i g0 g1 => ((zup_k (by decide)).trans ((zup_k (by decide)).trans ((zup_i (by omega)).trans ((zup_i (by omega)).trans ((zup_i (by omega)).trans ((zup_i (by omega)).trans ((zup_k (by decide)).trans ((zup_k (by decide)).trans ((zup_k (by decide)).trans ((zup_k (by decide)).trans ((zup_k (by decide)).trans ((zup_k (by decide)).trans ((zup_k (by decide)).trans ((zup_k (by decide)).trans ((zup_k (by decide)).trans (congrFun q0.2.2.2.2.2.2.1 _))))))))))))))))) ?_)
        refine rl_nm (w' := 0) (N' := 116) rfl rfl ?_
        refine rl_aload_n (pc := 150) dX6_init_150 rfl ?_
        refine rl_getR (pc := 151) (n := 0) dX6_init_151 fX6_12 rfl (by omega) rfl rfl (zset1 ((zup_k (by decide)).trans ((zup_k (by decide)).trans ((zup_k (by decide)).trans ((zup_k (by decide)).trans ((zup_k (by decide)).trans ((zup_k (by decide)).trans ((zup_k (by decide)).trans ((zup_k (by decide)).trans ((zup_k (by decide)).trans ((zup_k (by decide)).trans ((zup_k (by decide)).trans ((zup_k (by decide)).trans ((zup_k (by decide)).trans ((zup_k (by decide)).trans ((zup_k (by decide)).trans ((zup_k (by decide)).trans ((zup_k (by decide)).trans ((zup_k (by decide)).trans ((zup_k (by decide)).trans ((zup_k (by decide)).trans a0))))))))))))))))))))) ?_
        refine rl_bipush (n := (98)) dX6_init_154 ?_
        refine rl_invN (host := "HopscotchCourt") (M' := MX0_addLetter) (d' := 0) (w' := 0) (k := 0) (ik := 1) (As := [_]) (pc := 156) dX6_init_156 (zNst_in 382 (by decide +kernel) rfl) kX0_addLetter vX0_addLetter rfl (by decide) (by omega) rfl rfl (by decide) (by omega) (by decide) (Nat.le_of_ble_eq_true rfl) rfl (zLv.r (j := 0) (by omega) rfl (zLv.i (zLv.nil))) (zLv.nil) (nX0_addLetter (x := (0 + 1)) (v := 98) zCt_0 zcn_1 (by omega) (by omega) (fun j g0 g1 => ((zup_k (by decide)).trans ((zup_k (by decide)).trans ((zup_k (by decide)).trans ((zup_k (by decide)).trans ((zup_i (by omega)).trans ((zup_k (by decide)).trans ((zup_k (by decide)).trans ((zup_k (by decide)).trans ((zup_k (by decide)).trans ((zup_k (by decide)).trans ((zup_k (by decide)).trans ((zup_i (by omega)).trans ((zup_k (by decide)).trans ((zup_i (by omega)).trans ((zup_k (by decide)).trans ((zup_i (by omega)).trans ((zup_k (by decide)).trans ((zup_i (by omega)).trans ((zup_k (by decide)).trans ((zup_i (by omega)).trans (q0.2.1 j g0 g1)))))))))))))))))))))) ((zup_k (by decide)).trans ((zup_k (by decide)).trans ((zup_k (by decide)).trans ((zup_k (by decide)).trans zup_s)))) (by decide) (by decide) ((zup_k (by decide)).trans ((zup_k (by decide)).trans ((zup_k (by decide)).trans ((zup_k (by decide)).trans ((zup_k (by decide)).trans ((zup_i (by decide)).trans ((zup_k (by decide)).trans ((zup_k (by decide)).trans ((zup_k (by decide)).trans ((zup_k (by decide)).trans ((zup_k (by decide)).trans ((zup_k (by decide)).trans ((zup_k (by decide)).trans ((zup_k (by decide)).trans ((zup_k (by decide)).trans ((zup_k (by decide)).trans ((zup_k (by decide)).trans ((zup_k (by decide)).trans ((zup_k (by decide)).trans ((zup_k (by decide)).trans (congrFun q0.2.2.2.2.2.2.2.2 _))))))))))))))))))))) (by decide) (by decide) ?_)
        refine rl_nm (w' := 0) (N' := 116) rfl rfl ?_
        exact rl_ret (pc := 159) dX6_init_159 rfl (hq V7 a0 a1 a2 a3 a4 a5 a6 a7 q0 q8 qg qh s0 s1 c80 c88 i0 i1 r0 r1 r6 t0 t1 out)
      · exact absurd h60 (by decide)
