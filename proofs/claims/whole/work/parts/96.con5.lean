theorem znew_k {W : zWd} {k k' : Nat} {i : Int} (h : k' ≠ k) : znew W k k' i = W k' i := congrFun (znew_o h) i
theorem rl_nm {M : zM} {d w N w' N' : Nat} {W₀ : zWd} {pc : Nat} {ls st : List Value} {K : zKL} (ew : w = w') (eN : N = N') (k : RN M d w' N' W₀ pc ls st K) : RN M d w N W₀ pc ls st K := by subst ew; subst eN; exact k
theorem zhc {W : zWd} {N n0 c k j : Nat} (e1 : zov N = k) (e2 : zpr k = (n0, j)) (e3 : zov n0 = c) (h : W c (j : Int) = 0) : W (zov (zpr (zov N)).1) ((zpr (zov N)).2 : Nat) = 0 := by
  rw [e1, e2]
  show W (zov n0) (j : Int) = 0
  rw [e3]
  exact h
theorem zC0.cg {W W' : zWd} {c : Nat} (h : zC0 W c) (o : ∀ k : Nat, c ≤ k → k < c + 8 → W' k = W k) : zC0 W' c := by
  unfold zC0 at *
  rw [o c (by omega) (by omega), o (c + 1) (by omega) (by omega), o (c + 2) (by omega) (by omega), o (c + 3) (by omega) (by omega), o (c + 4) (by omega) (by omega), o (c + 5) (by omega) (by omega), o (c + 6) (by omega) (by omega), o (c + 7) (by omega) (by omega)]
  exact h
def fsX0 : List Value := [.int 0, .int 0, .int 0, .int 0, .int 0, .int 0, .int 0, .int 0, .null, .null, .null, .null, .null, .null, .null]
theorem fsX0_ok : ∀ j, j < znf 0 → defaultValue (tyX0 j) = vp_V fsX0 j := fun j hj => by
  have hj : j < 15 := hj
  rcases (show j = 0 ∨ j = 1 ∨ j = 2 ∨ j = 3 ∨ j = 4 ∨ j = 5 ∨ j = 6 ∨ j = 7 ∨ j = 8 ∨ j = 9 ∨ j = 10 ∨ j = 11 ∨ j = 12 ∨ j = 13 ∨ j = 14 by omega) with rfl | rfl | rfl | rfl | rfl | rfl | rfl | rfl | rfl | rfl | rfl | rfl | rfl | rfl | rfl <;> rfl
def fsX1 : List Value := [.null, .null]
theorem fsX1_ok : ∀ j, j < znf 1 → defaultValue (tyX1 j) = vp_V fsX1 j := fun j hj => by
  have hj : j < 2 := hj
  rcases (show j = 0 ∨ j = 1 by omega) with rfl | rfl <;> rfl
def fsX2 : List Value := [.null, .int 0, .int 0]
theorem fsX2_ok : ∀ j, j < znf 2 → defaultValue (tyX2 j) = vp_V fsX2 j := fun j hj => by
  have hj : j < 3 := hj
  rcases (show j = 0 ∨ j = 1 ∨ j = 2 by omega) with rfl | rfl | rfl <;> rfl
def fsX3 : List Value := [.null, .int 0, .int 0, .int 0, .int 0, .int 0, .int 0]
theorem fsX3_ok : ∀ j, j < znf 3 → defaultValue (tyX3 j) = vp_V fsX3 j := fun j hj => by
  have hj : j < 7 := hj
  rcases (show j = 0 ∨ j = 1 ∨ j = 2 ∨ j = 3 ∨ j = 4 ∨ j = 5 ∨ j = 6 by omega) with rfl | rfl | rfl | rfl | rfl | rfl | rfl <;> rfl
def fsX4 : List Value := [.int 0, .int 0, .int 0, .null, .int 0, .int 0, .int 0, .int 0, .null, .null, .null]
theorem fsX4_ok : ∀ j, j < znf 4 → defaultValue (tyX4 j) = vp_V fsX4 j := fun j hj => by
  have hj : j < 11 := hj
  rcases (show j = 0 ∨ j = 1 ∨ j = 2 ∨ j = 3 ∨ j = 4 ∨ j = 5 ∨ j = 6 ∨ j = 7 ∨ j = 8 ∨ j = 9 ∨ j = 10 by omega) with rfl | rfl | rfl | rfl | rfl | rfl | rfl | rfl | rfl | rfl | rfl <;> rfl
def fsX5 : List Value := [.null, .int 0]
theorem fsX5_ok : ∀ j, j < znf 5 → defaultValue (tyX5 j) = vp_V fsX5 j := fun j hj => by
  have hj : j < 2 := hj
  rcases (show j = 0 ∨ j = 1 by omega) with rfl | rfl <;> rfl
def fsX6 : List Value := [.null, .null, .null, .null, .null, .null, .null, .null]
theorem fsX6_ok : ∀ j, j < znf 6 → defaultValue (tyX6 j) = vp_V fsX6 j := fun j hj => by
  have hj : j < 8 := hj
  rcases (show j = 0 ∨ j = 1 ∨ j = 2 ∨ j = 3 ∨ j = 4 ∨ j = 5 ∨ j = 6 ∨ j = 7 by omega) with rfl | rfl | rfl | rfl | rfl | rfl | rfl | rfl <;> rfl
def fsX7 : List Value := [.null, .null, .null, .null, .null, .null, .int 0, .int 0, .null, .int 0, .int 0, .int 0, .int 0, .int 0, .int 0, .int 0, .int 0, .null, .null, .null, .int 0, .int 0, .int 0, .int 0, .int 0, .null, .int 0]
theorem fsX7_ok : ∀ j, j < znf 7 → defaultValue (tyX7 j) = vp_V fsX7 j := fun j hj => by
  have hj : j < 27 := hj
  rcases (show j = 0 ∨ j = 1 ∨ j = 2 ∨ j = 3 ∨ j = 4 ∨ j = 5 ∨ j = 6 ∨ j = 7 ∨ j = 8 ∨ j = 9 ∨ j = 10 ∨ j = 11 ∨ j = 12 ∨ j = 13 ∨ j = 14 ∨ j = 15 ∨ j = 16 ∨ j = 17 ∨ j = 18 ∨ j = 19 ∨ j = 20 ∨ j = 21 ∨ j = 22 ∨ j = 23 ∨ j = 24 ∨ j = 25 ∨ j = 26 by omega) with rfl | rfl | rfl | rfl | rfl | rfl | rfl | rfl | rfl | rfl | rfl | rfl | rfl | rfl | rfl | rfl | rfl | rfl | rfl | rfl | rfl | rfl | rfl | rfl | rfl | rfl | rfl <;> rfl
theorem dX4_init_0 : decode cX4_init 0 = .ok (.aload_n 0, 1) := by decide +kernel
theorem dX4_init_1 : decode cX4_init 1 = .ok (.invokespecial 3, 3) := by decide +kernel
theorem dX4_init_4 : decode cX4_init 4 = .ok (.aload_n 0, 1) := by decide +kernel
theorem dX4_init_5 : decode cX4_init 5 = .ok (.bipush 11, 2) := by decide +kernel
theorem dX4_init_7 : decode cX4_init 7 = .ok (.newarray .int, 2) := by decide +kernel
theorem dX4_init_9 : decode cX4_init 9 = .ok (.putfield 9, 3) := by decide +kernel
theorem dX4_init_12 : decode cX4_init 12 = .ok (.aload_n 0, 1) := by decide +kernel
theorem dX4_init_13 : decode cX4_init 13 = .ok (.bipush 12, 2) := by decide +kernel
theorem dX4_init_15 : decode cX4_init 15 = .ok (.newarray .int, 2) := by decide +kernel
theorem dX4_init_17 : decode cX4_init 17 = .ok (.putfield 15, 3) := by decide +kernel
theorem dX4_init_20 : decode cX4_init 20 = .ok (.aload_n 0, 1) := by decide +kernel
theorem dX4_init_21 : decode cX4_init 21 = .ok (.bipush 120, 2) := by decide +kernel
theorem dX4_init_23 : decode cX4_init 23 = .ok (.newarray .int, 2) := by decide +kernel
theorem dX4_init_25 : decode cX4_init 25 = .ok (.putfield 18, 3) := by decide +kernel
theorem dX4_init_28 : decode cX4_init 28 = .ok (.aload_n 0, 1) := by decide +kernel
theorem dX4_init_29 : decode cX4_init 29 = .ok (.bipush 120, 2) := by decide +kernel
theorem dX4_init_31 : decode cX4_init 31 = .ok (.newarray .int, 2) := by decide +kernel
theorem dX4_init_33 : decode cX4_init 33 = .ok (.putfield 21, 3) := by decide +kernel
theorem dX4_init_36 : decode cX4_init 36 = .ok (.aload_n 0, 1) := by decide +kernel
theorem dX4_init_37 : decode cX4_init 37 = .ok (.iload_n 1, 1) := by decide +kernel
theorem dX4_init_38 : decode cX4_init 38 = .ok (.putfield 24, 3) := by decide +kernel
theorem dX4_init_41 : decode cX4_init 41 = .ok (.return_, 1) := by decide +kernel
theorem nX4_init98 {W : zWd} {Q : zWd → Prop} (h0 : ∀ j : Int, W 98 j = 0) (hq : ∀ W' : zWd, (∀ k : Nat, (k < 98 ∨ 103 ≤ k) → W' k = W k) → W' 98 0 = 0 → W' 98 3 = 1 → W' 98 8 = 1 → W' 98 9 = 1 → W' 98 10 = 1 → Q W') : EvN MX4_init 1 4 (19) W [.ref 98, zI 0] Q := by
  refine ev_ofL (ls := [.ref 98, zI 0]) (by decide) rfl (fun _ => rfl) (fun _ => Nat.le_of_ble_eq_true rfl) ?_
  refine rl_aload_n (pc := 0) dX4_init_0 rfl ?_
  refine rl_obj (pc := 1) dX4_init_1 (zWs_in 254 (by decide +kernel) rfl) (zWs_in 156 (by decide +kernel) rfl) (zWs_in 157 (by decide +kernel) rfl) (by decide) (by decide) ?_
  refine rl_aload_n (pc := 4) dX4_init_4 rfl ?_
  refine rl_bipush (n := (11)) dX4_init_5 ?_
  refine rl_newa_i (pc := 7) (n := 11) dX4_init_7 (zWs_in 241 (by decide +kernel) rfl) rfl (by omega) (Or.inl (zhc (k := 99) (n0 := 18) (c := 98) (j := 3) rfl rfl rfl (h0 _))) (zLv.r (j := 18) (by omega) rfl (zLv.i (zLv.nil))) (zLv.r (j := 18) (by omega) rfl (zLv.nil)) (by decide) ?_
  rw [show zov 19 = 99 from rfl]
  refine rl_nm (w' := 3) (N' := 20) rfl rfl ?_
  refine rl_putF (pc := 9) (j := 3) (n := 18) (x := 1) dX4_init_9 (C := RX4) (T := TX4) (ci := 4) rfl (by decide) (by decide) uwX4 tyX4_ok nmX4 (zWs_in 261 (by decide +kernel) rfl) rfl rfl rfl (ty := .array .int) (by decide +kernel) (fun _ => rfl) (fun _ => rfl) rfl (by omega) (by omega) rfl (zfw_r rfl) ?_
  refine rl_aload_n (pc := 12) dX4_init_12 rfl ?_
  refine rl_bipush (n := (12)) dX4_init_13 ?_
  refine rl_newa_i (pc := 15) (n := 12) dX4_init_15 (zWs_in 241 (by decide +kernel) rfl) rfl (by omega) (Or.inl (zhc (k := 100) (n0 := 18) (c := 98) (j := 8) rfl rfl rfl ((zup_i (by decide)).trans ((znew_k (by decide)).trans (h0 _))))) (zLv.r (j := 18) (by omega) rfl (zLv.i (zLv.nil))) (zLv.r (j := 18) (by omega) rfl (zLv.nil)) (by decide) ?_
  rw [show zov 20 = 100 from rfl]
  refine rl_nm (w' := 2) (N' := 21) rfl rfl ?_
  refine rl_putF (pc := 17) (j := 8) (n := 18) (x := 1) dX4_init_17 (C := RX4) (T := TX4) (ci := 4) rfl (by decide) (by decide) uwX4 tyX4_ok nmX4 (zWs_in 268 (by decide +kernel) rfl) rfl rfl rfl (ty := .array .int) (by decide +kernel) (fun _ => rfl) (fun _ => rfl) rfl (by omega) (by omega) rfl (zfw_r rfl) ?_
  refine rl_aload_n (pc := 20) dX4_init_20 rfl ?_
  refine rl_bipush (n := (120)) dX4_init_21 ?_
  refine rl_newa_i (pc := 23) (n := 120) dX4_init_23 (zWs_in 241 (by decide +kernel) rfl) rfl (by omega) (Or.inl (zhc (k := 101) (n0 := 18) (c := 98) (j := 9) rfl rfl rfl ((zup_i (by decide)).trans ((znew_k (by decide)).trans ((zup_i (by decide)).trans ((znew_k (by decide)).trans (h0 _))))))) (zLv.r (j := 18) (by omega) rfl (zLv.i (zLv.nil))) (zLv.r (j := 18) (by omega) rfl (zLv.nil)) (by decide) ?_
  rw [show zov 21 = 101 from rfl]
  refine rl_nm (w' := 1) (N' := 22) rfl rfl ?_
  refine rl_putF (pc := 25) (j := 9) (n := 18) (x := 1) dX4_init_25 (C := RX4) (T := TX4) (ci := 4) rfl (by decide) (by decide) uwX4 tyX4_ok nmX4 (zWs_in 269 (by decide +kernel) rfl) rfl rfl rfl (ty := .array .int) (by decide +kernel) (fun _ => rfl) (fun _ => rfl) rfl (by omega) (by omega) rfl (zfw_r rfl) ?_
  refine rl_aload_n (pc := 28) dX4_init_28 rfl ?_
  refine rl_bipush (n := (120)) dX4_init_29 ?_
  refine rl_newa_i (pc := 31) (n := 120) dX4_init_31 (zWs_in 241 (by decide +kernel) rfl) rfl (by omega) (Or.inl (zhc (k := 102) (n0 := 18) (c := 98) (j := 10) rfl rfl rfl ((zup_i (by decide)).trans ((znew_k (by decide)).trans ((zup_i (by decide)).trans ((znew_k (by decide)).trans ((zup_i (by decide)).trans ((znew_k (by decide)).trans (h0 _))))))))) (zLv.r (j := 18) (by omega) rfl (zLv.i (zLv.nil))) (zLv.r (j := 18) (by omega) rfl (zLv.nil)) (by decide) ?_
  rw [show zov 22 = 102 from rfl]
  refine rl_nm (w' := 0) (N' := 23) rfl rfl ?_
  refine rl_putF (pc := 33) (j := 10) (n := 18) (x := 1) dX4_init_33 (C := RX4) (T := TX4) (ci := 4) rfl (by decide) (by decide) uwX4 tyX4_ok nmX4 (zWs_in 270 (by decide +kernel) rfl) rfl rfl rfl (ty := .array .int) (by decide +kernel) (fun _ => rfl) (fun _ => rfl) rfl (by omega) (by omega) rfl (zfw_r rfl) ?_
  refine rl_aload_n (pc := 36) dX4_init_36 rfl ?_
  refine rl_iload_n (pc := 37) dX4_init_37 rfl ?_
  refine rl_putF (pc := 38) (j := 0) (n := 18) (x := 0) dX4_init_38 (C := RX4) (T := TX4) (ci := 4) rfl (by decide) (by decide) uwX4 tyX4_ok nmX4 (zWs_in 255 (by decide +kernel) rfl) rfl rfl rfl (ty := .boolean) (by decide +kernel) (fun _ => rfl) (fun _ => rfl) rfl (by omega) (by omega) rfl (fun ad => by unfold zfw; rw [show zr 98 0 = none from rfl]; show _ = Value.int (Int32.ofInt (zup _ _ _ _ _ _)); rw [zup_s]; rfl) ?_
  exact rl_ret (pc := 41) dX4_init_41 rfl (hq _ (fun k hk => by rw [zup_other _ (by omega), zup_other _ (by omega), znew_o (by omega), zup_other _ (by omega), znew_o (by omega), zup_other _ (by omega), znew_o (by omega), zup_other _ (by omega), znew_o (by omega)]) zup_s ((zup_i (by decide)).trans ((zup_i (by decide)).trans ((znew_k (by decide)).trans ((zup_i (by decide)).trans ((znew_k (by decide)).trans ((zup_i (by decide)).trans ((znew_k (by decide)).trans zup_s))))))) ((zup_i (by decide)).trans ((zup_i (by decide)).trans ((znew_k (by decide)).trans ((zup_i (by decide)).trans ((znew_k (by decide)).trans zup_s))))) ((zup_i (by decide)).trans ((zup_i (by decide)).trans ((znew_k (by decide)).trans zup_s))) ((zup_i (by decide)).trans zup_s))
theorem nX4_init103 {W : zWd} {Q : zWd → Prop} (h0 : ∀ j : Int, W 103 j = 0) (hq : ∀ W' : zWd, (∀ k : Nat, (k < 103 ∨ 108 ≤ k) → W' k = W k) → W' 103 0 = 1 → W' 103 3 = 1 → W' 103 8 = 1 → W' 103 9 = 1 → W' 103 10 = 1 → Q W') : EvN MX4_init 1 4 (24) W [.ref 103, zI 1] Q := by
  refine ev_ofL (ls := [.ref 103, zI 1]) (by decide) rfl (fun _ => rfl) (fun _ => Nat.le_of_ble_eq_true rfl) ?_
  refine rl_aload_n (pc := 0) dX4_init_0 rfl ?_
  refine rl_obj (pc := 1) dX4_init_1 (zWs_in 254 (by decide +kernel) rfl) (zWs_in 156 (by decide +kernel) rfl) (zWs_in 157 (by decide +kernel) rfl) (by decide) (by decide) ?_
  refine rl_aload_n (pc := 4) dX4_init_4 rfl ?_
  refine rl_bipush (n := (11)) dX4_init_5 ?_
  refine rl_newa_i (pc := 7) (n := 11) dX4_init_7 (zWs_in 241 (by decide +kernel) rfl) rfl (by omega) (Or.inl (zhc (k := 104) (n0 := 23) (c := 103) (j := 3) rfl rfl rfl (h0 _))) (zLv.r (j := 23) (by omega) rfl (zLv.i (zLv.nil))) (zLv.r (j := 23) (by omega) rfl (zLv.nil)) (by decide) ?_
  rw [show zov 24 = 104 from rfl]
  refine rl_nm (w' := 3) (N' := 25) rfl rfl ?_
  refine rl_putF (pc := 9) (j := 3) (n := 23) (x := 1) dX4_init_9 (C := RX4) (T := TX4) (ci := 4) rfl (by decide) (by decide) uwX4 tyX4_ok nmX4 (zWs_in 261 (by decide +kernel) rfl) rfl rfl rfl (ty := .array .int) (by decide +kernel) (fun _ => rfl) (fun _ => rfl) rfl (by omega) (by omega) rfl (zfw_r rfl) ?_
  refine rl_aload_n (pc := 12) dX4_init_12 rfl ?_
  refine rl_bipush (n := (12)) dX4_init_13 ?_
  refine rl_newa_i (pc := 15) (n := 12) dX4_init_15 (zWs_in 241 (by decide +kernel) rfl) rfl (by omega) (Or.inl (zhc (k := 105) (n0 := 23) (c := 103) (j := 8) rfl rfl rfl ((zup_i (by decide)).trans ((znew_k (by decide)).trans (h0 _))))) (zLv.r (j := 23) (by omega) rfl (zLv.i (zLv.nil))) (zLv.r (j := 23) (by omega) rfl (zLv.nil)) (by decide) ?_
  rw [show zov 25 = 105 from rfl]
  refine rl_nm (w' := 2) (N' := 26) rfl rfl ?_
  refine rl_putF (pc := 17) (j := 8) (n := 23) (x := 1) dX4_init_17 (C := RX4) (T := TX4) (ci := 4) rfl (by decide) (by decide) uwX4 tyX4_ok nmX4 (zWs_in 268 (by decide +kernel) rfl) rfl rfl rfl (ty := .array .int) (by decide +kernel) (fun _ => rfl) (fun _ => rfl) rfl (by omega) (by omega) rfl (zfw_r rfl) ?_
  refine rl_aload_n (pc := 20) dX4_init_20 rfl ?_
  refine rl_bipush (n := (120)) dX4_init_21 ?_
  refine rl_newa_i (pc := 23) (n := 120) dX4_init_23 (zWs_in 241 (by decide +kernel) rfl) rfl (by omega) (Or.inl (zhc (k := 106) (n0 := 23) (c := 103) (j := 9) rfl rfl rfl ((zup_i (by decide)).trans ((znew_k (by decide)).trans ((zup_i (by decide)).trans ((znew_k (by decide)).trans (h0 _))))))) (zLv.r (j := 23) (by omega) rfl (zLv.i (zLv.nil))) (zLv.r (j := 23) (by omega) rfl (zLv.nil)) (by decide) ?_
  rw [show zov 26 = 106 from rfl]
  refine rl_nm (w' := 1) (N' := 27) rfl rfl ?_
  refine rl_putF (pc := 25) (j := 9) (n := 23) (x := 1) dX4_init_25 (C := RX4) (T := TX4) (ci := 4) rfl (by decide) (by decide) uwX4 tyX4_ok nmX4 (zWs_in 269 (by decide +kernel) rfl) rfl rfl rfl (ty := .array .int) (by decide +kernel) (fun _ => rfl) (fun _ => rfl) rfl (by omega) (by omega) rfl (zfw_r rfl) ?_
  refine rl_aload_n (pc := 28) dX4_init_28 rfl ?_
  refine rl_bipush (n := (120)) dX4_init_29 ?_
  refine rl_newa_i (pc := 31) (n := 120) dX4_init_31 (zWs_in 241 (by decide +kernel) rfl) rfl (by omega) (Or.inl (zhc (k := 107) (n0 := 23) (c := 103) (j := 10) rfl rfl rfl ((zup_i (by decide)).trans ((znew_k (by decide)).trans ((zup_i (by decide)).trans ((znew_k (by decide)).trans ((zup_i (by decide)).trans ((znew_k (by decide)).trans (h0 _))))))))) (zLv.r (j := 23) (by omega) rfl (zLv.i (zLv.nil))) (zLv.r (j := 23) (by omega) rfl (zLv.nil)) (by decide) ?_
  rw [show zov 27 = 107 from rfl]
  refine rl_nm (w' := 0) (N' := 28) rfl rfl ?_
  refine rl_putF (pc := 33) (j := 10) (n := 23) (x := 1) dX4_init_33 (C := RX4) (T := TX4) (ci := 4) rfl (by decide) (by decide) uwX4 tyX4_ok nmX4 (zWs_in 270 (by decide +kernel) rfl) rfl rfl rfl (ty := .array .int) (by decide +kernel) (fun _ => rfl) (fun _ => rfl) rfl (by omega) (by omega) rfl (zfw_r rfl) ?_
  refine rl_aload_n (pc := 36) dX4_init_36 rfl ?_
  refine rl_iload_n (pc := 37) dX4_init_37 rfl ?_
  refine rl_putF (pc := 38) (j := 0) (n := 23) (x := 1) dX4_init_38 (C := RX4) (T := TX4) (ci := 4) rfl (by decide) (by decide) uwX4 tyX4_ok nmX4 (zWs_in 255 (by decide +kernel) rfl) rfl rfl rfl (ty := .boolean) (by decide +kernel) (fun _ => rfl) (fun _ => rfl) rfl (by omega) (by omega) rfl (fun ad => by unfold zfw; rw [show zr 103 0 = none from rfl]; show _ = Value.int (Int32.ofInt (zup _ _ _ _ _ _)); rw [zup_s]; rfl) ?_
  exact rl_ret (pc := 41) dX4_init_41 rfl (hq _ (fun k hk => by rw [zup_other _ (by omega), zup_other _ (by omega), znew_o (by omega), zup_other _ (by omega), znew_o (by omega), zup_other _ (by omega), znew_o (by omega), zup_other _ (by omega), znew_o (by omega)]) zup_s ((zup_i (by decide)).trans ((zup_i (by decide)).trans ((znew_k (by decide)).trans ((zup_i (by decide)).trans ((znew_k (by decide)).trans ((zup_i (by decide)).trans ((znew_k (by decide)).trans zup_s))))))) ((zup_i (by decide)).trans ((zup_i (by decide)).trans ((znew_k (by decide)).trans ((zup_i (by decide)).trans ((znew_k (by decide)).trans zup_s))))) ((zup_i (by decide)).trans ((zup_i (by decide)).trans ((znew_k (by decide)).trans zup_s))) ((zup_i (by decide)).trans zup_s))
theorem dX3_init_0 : decode cX3_init 0 = .ok (.aload_n 0, 1) := by decide +kernel
theorem dX3_init_1 : decode cX3_init 1 = .ok (.invokespecial 3, 3) := by decide +kernel
theorem dX3_init_4 : decode cX3_init 4 = .ok (.aload_n 0, 1) := by decide +kernel
theorem dX3_init_5 : decode cX3_init 5 = .ok (.sipush 600, 3) := by decide +kernel
theorem dX3_init_8 : decode cX3_init 8 = .ok (.newarray .byte, 2) := by decide +kernel
theorem dX3_init_10 : decode cX3_init 10 = .ok (.putfield 9, 3) := by decide +kernel
theorem dX3_init_13 : decode cX3_init 13 = .ok (.aload_n 0, 1) := by decide +kernel
theorem dX3_init_14 : decode cX3_init 14 = .ok (.iconst (-1), 1) := by decide +kernel
theorem dX3_init_15 : decode cX3_init 15 = .ok (.putfield 15, 3) := by decide +kernel
theorem dX3_init_18 : decode cX3_init 18 = .ok (.return_, 1) := by decide +kernel
theorem nX3_init {W : zWd} {Q : zWd → Prop} (h0 : ∀ j : Int, W 112 j = 0) (hq : ∀ W' : zWd, (∀ k : Nat, (k < 112 ∨ 114 ≤ k) → W' k = W k) → W' 112 0 = 1 → W' 112 1 = 0 → W' 112 6 = -1 → Q W') : EvN MX3_init 1 1 (113) W [.ref 112] Q := by
  refine ev_ofL (ls := [.ref 112]) (by decide) rfl (fun _ => rfl) (fun _ => Nat.le_of_ble_eq_true rfl) ?_
  refine rl_aload_n (pc := 0) dX3_init_0 rfl ?_
  refine rl_obj (pc := 1) dX3_init_1 (zWs_in 328 (by decide +kernel) rfl) (zWs_in 156 (by decide +kernel) rfl) (zWs_in 157 (by decide +kernel) rfl) (by decide) (by decide) ?_
  refine rl_aload_n (pc := 4) dX3_init_4 rfl ?_
  refine rl_sipush (n := (600)) dX3_init_5 ?_
  refine rl_newa_b (pc := 8) (n := 600) dX3_init_8 (zWs_in 242 (by decide +kernel) rfl) rfl (by omega) (Or.inl (zhc (k := 113) (n0 := 112) (c := 112) (j := 0) rfl rfl rfl (h0 _))) (zLv.r (j := 112) (by omega) rfl (zLv.nil)) (zLv.r (j := 112) (by omega) rfl (zLv.nil)) (by decide) ?_
  rw [show zov 113 = 113 from rfl]
  refine rl_nm (w' := 0) (N' := 114) rfl rfl ?_
  refine rl_putF (pc := 10) (j := 0) (n := 112) (x := 1) dX3_init_10 (C := RX3) (T := TX3) (ci := 3) rfl (by decide) (by decide) uwX3 tyX3_ok nmX3 (zWs_in 329 (by decide +kernel) rfl) rfl rfl rfl (ty := .array .byte) (by decide +kernel) (fun _ => rfl) (fun _ => rfl) rfl (by omega) (by omega) rfl (zfw_r rfl) ?_
  refine rl_aload_n (pc := 13) dX3_init_13 rfl ?_
  refine rl_iconst (n := (-1)) dX3_init_14 ?_
  refine rl_put (pc := 15) (ji := 6) (n := 112) dX3_init_15 fX3_15 fp_3_6 rfl (by omega) (by omega) rfl rfl rfl ?_
  exact rl_ret (pc := 18) dX3_init_18 rfl (hq _ (fun k hk => by rw [zup_other _ (by omega), zup_other _ (by omega), znew_o (by omega)]) ((zup_i (by decide)).trans zup_s) ((zup_i (by decide)).trans ((zup_i (by decide)).trans ((znew_k (by decide)).trans (h0 _)))) zup_s)
theorem dX5_init_0 : decode cX5_init 0 = .ok (.aload_n 0, 1) := by decide +kernel
theorem dX5_init_1 : decode cX5_init 1 = .ok (.invokespecial 3, 3) := by decide +kernel
theorem dX5_init_4 : decode cX5_init 4 = .ok (.aload_n 0, 1) := by decide +kernel
theorem dX5_init_5 : decode cX5_init 5 = .ok (.sipush 300, 3) := by decide +kernel
theorem dX5_init_8 : decode cX5_init 8 = .ok (.newarray .byte, 2) := by decide +kernel
theorem dX5_init_10 : decode cX5_init 10 = .ok (.putfield 9, 3) := by decide +kernel
theorem dX5_init_13 : decode cX5_init 13 = .ok (.return_, 1) := by decide +kernel
theorem nX5_init {W : zWd} {Q : zWd → Prop} (h0 : ∀ j : Int, W 114 j = 0) (hq : ∀ W' : zWd, (∀ k : Nat, (k < 114 ∨ 116 ≤ k) → W' k = W k) → W' 114 0 = 1 → W' 114 1 = 0 → Q W') : EvN MX5_init 1 1 (115) W [.ref 114] Q := by
  refine ev_ofL (ls := [.ref 114]) (by decide) rfl (fun _ => rfl) (fun _ => Nat.le_of_ble_eq_true rfl) ?_
  refine rl_aload_n (pc := 0) dX5_init_0 rfl ?_
  refine rl_obj (pc := 1) dX5_init_1 (zWs_in 360 (by decide +kernel) rfl) (zWs_in 156 (by decide +kernel) rfl) (zWs_in 157 (by decide +kernel) rfl) (by decide) (by decide) ?_
  refine rl_aload_n (pc := 4) dX5_init_4 rfl ?_
  refine rl_sipush (n := (300)) dX5_init_5 ?_
  refine rl_newa_b (pc := 8) (n := 300) dX5_init_8 (zWs_in 242 (by decide +kernel) rfl) rfl (by omega) (Or.inl (zhc (k := 115) (n0 := 114) (c := 114) (j := 0) rfl rfl rfl (h0 _))) (zLv.r (j := 114) (by omega) rfl (zLv.nil)) (zLv.r (j := 114) (by omega) rfl (zLv.nil)) (by decide) ?_
  rw [show zov 115 = 115 from rfl]
  refine rl_nm (w' := 0) (N' := 116) rfl rfl ?_
  refine rl_putF (pc := 10) (j := 0) (n := 114) (x := 1) dX5_init_10 (C := RX5) (T := TX5) (ci := 5) rfl (by decide) (by decide) uwX5 tyX5_ok nmX5 (zWs_in 361 (by decide +kernel) rfl) rfl rfl rfl (ty := .array .byte) (by decide +kernel) (fun _ => rfl) (fun _ => rfl) rfl (by omega) (by omega) rfl (zfw_r rfl) ?_
  exact rl_ret (pc := 13) dX5_init_13 rfl (hq _ (fun k hk => by rw [zup_other _ (by omega), znew_o (by omega)]) zup_s ((zup_i (by decide)).trans ((znew_k (by decide)).trans (h0 _))))
def zBg (W : zWd) : Prop := (W 97 0 = 1 ∧ W 97 1 = 1) ∧ (W 98 0 = 0 ∧ W 98 3 = 1 ∧ W 98 8 = 1 ∧ W 98 9 = 1 ∧ W 98 10 = 1) ∧ (W 103 0 = 1 ∧ W 103 3 = 1 ∧ W 103 8 = 1 ∧ W 103 9 = 1 ∧ W 103 10 = 1)
theorem zBg.cg {W W' : zWd} (h : zBg W) (o : ∀ k : Nat, 97 ≤ k → k < 108 → W' k = W k) : zBg W' := by
  unfold zBg at *
  rw [o 97 (by omega) (by omega), o 98 (by omega) (by omega), o 103 (by omega) (by omega)]
  exact h
theorem dX1_init_0 : decode cX1_init 0 = .ok (.aload_n 0, 1) := by decide +kernel
theorem dX1_init_1 : decode cX1_init 1 = .ok (.invokespecial 3, 3) := by decide +kernel
theorem dX1_init_4 : decode cX1_init 4 = .ok (.aload_n 0, 1) := by decide +kernel
theorem dX1_init_5 : decode cX1_init 5 = .ok (.new 9, 3) := by decide +kernel
theorem dX1_init_8 : decode cX1_init 8 = .ok (.dup, 1) := by decide +kernel
theorem dX1_init_9 : decode cX1_init 9 = .ok (.iconst 0, 1) := by decide +kernel
theorem dX1_init_10 : decode cX1_init 10 = .ok (.invokespecial 11, 3) := by decide +kernel
theorem dX1_init_13 : decode cX1_init 13 = .ok (.putfield 14, 3) := by decide +kernel
theorem dX1_init_16 : decode cX1_init 16 = .ok (.aload_n 0, 1) := by decide +kernel
theorem dX1_init_17 : decode cX1_init 17 = .ok (.new 9, 3) := by decide +kernel
theorem dX1_init_20 : decode cX1_init 20 = .ok (.dup, 1) := by decide +kernel
theorem dX1_init_21 : decode cX1_init 21 = .ok (.iconst 1, 1) := by decide +kernel
theorem dX1_init_22 : decode cX1_init 22 = .ok (.invokespecial 11, 3) := by decide +kernel
theorem dX1_init_25 : decode cX1_init 25 = .ok (.putfield 20, 3) := by decide +kernel
theorem dX1_init_28 : decode cX1_init 28 = .ok (.return_, 1) := by decide +kernel
theorem nX1_init {W : zWd} {Q : zWd → Prop} (h0 : ∀ j : Int, W 97 j = 0) (hq : ∀ W' : zWd, (∀ k : Nat, (k < 97 ∨ 108 ≤ k) → W' k = W k) → zBg W' → Q W') : EvN MX1_init 2 10 (18) W [.ref 97] Q := by
  refine ev_ofL (ls := [.ref 97]) (by decide) rfl (fun _ => rfl) (fun _ => Nat.le_of_ble_eq_true rfl) ?_
  refine rl_aload_n (pc := 0) dX1_init_0 rfl ?_
  refine rl_obj (pc := 1) dX1_init_1 (zWs_in 248 (by decide +kernel) rfl) (zWs_in 156 (by decide +kernel) rfl) (zWs_in 157 (by decide +kernel) rfl) (by decide) (by decide) ?_
  refine rl_aload_n (pc := 4) dX1_init_4 rfl ?_
  refine rl_new (pc := 5) (ci := 4) (C := RX4) (T := TX4) (fs := fsX4) dX1_init_5 rfl (by decide) uwX4 tyX4_ok (zWs_in 249 (by decide +kernel) rfl) (zWs_in 250 (by decide +kernel) rfl) (zWs_in 132 (by decide +kernel) rfl) fsX4_ok rfl (fun _ _ => rfl) (by decide) (by omega) (Or.inl (zhc (k := 98) (n0 := 17) (c := 97) (j := 0) rfl rfl rfl (h0 _))) (zLv.r (j := 17) (by omega) rfl (zLv.nil)) (zLv.r (j := 17) (by omega) rfl (zLv.nil)) ?_
  rw [show zov 18 = 98 from rfl]
  refine rl_nm (w' := 9) (N' := 19) rfl rfl ?_
  refine rl_dup_r (pc := 8) dX1_init_8 ?_
  refine rl_iconst (n := 0) dX1_init_9 ?_
  refine rl_ctorN (host := "HopscotchCourt") (M' := MX4_init) (d' := 1) (w' := 4) (k := 98) (As := [_]) (pc := 10) dX1_init_10 (zNst_in 251 (by decide +kernel) rfl) kX4_init (zWs_in 252 (by decide +kernel) rfl) rfl rfl (by decide) (by omega) (by decide) (Nat.le_of_ble_eq_true rfl) rfl (zLv.r (j := 17) (by omega) rfl (zLv.nil)) (zLv.r (j := 18) (by omega) rfl (zLv.r (j := 17) (by omega) rfl (zLv.nil))) (nX4_init98 (fun j => znew_s) (fun W1 o1 a0 a3 a8 a9 a10 => ?_))
  refine rl_nm (w' := 5) (N' := 23) rfl rfl ?_
  refine rl_putF (pc := 13) (j := 0) (n := 17) (x := 1) dX1_init_13 (C := RX1) (T := TX1) (ci := 1) rfl (by decide) (by decide) uwX1 tyX1_ok nmX1 (zWs_in 294 (by decide +kernel) rfl) rfl rfl rfl (ty := .object "HopscotchCourt$Way") (by decide +kernel) (fun _ => rfl) (fun _ => rfl) rfl (by omega) (by omega) rfl (zfw_r rfl) ?_
  refine rl_aload_n (pc := 16) dX1_init_16 rfl ?_
  refine rl_new (pc := 17) (ci := 4) (C := RX4) (T := TX4) (fs := fsX4) dX1_init_17 rfl (by decide) uwX4 tyX4_ok (zWs_in 249 (by decide +kernel) rfl) (zWs_in 250 (by decide +kernel) rfl) (zWs_in 132 (by decide +kernel) rfl) fsX4_ok rfl (fun _ _ => rfl) (by decide) (by omega) (Or.inl (zhc (k := 103) (n0 := 17) (c := 97) (j := 1) rfl rfl rfl ((zup_i (by decide)).trans ((congrFun (o1 97 (by omega)) _).trans ((znew_k (by decide)).trans (h0 _)))))) (zLv.r (j := 17) (by omega) rfl (zLv.nil)) (zLv.r (j := 17) (by omega) rfl (zLv.nil)) ?_
  rw [show zov 23 = 103 from rfl]
  refine rl_nm (w' := 4) (N' := 24) rfl rfl ?_
  refine rl_dup_r (pc := 20) dX1_init_20 ?_
  refine rl_iconst (n := 1) dX1_init_21 ?_
  refine rl_ctorN (host := "HopscotchCourt") (M' := MX4_init) (d' := 1) (w' := 4) (k := 103) (As := [_]) (pc := 22) dX1_init_22 (zNst_in 251 (by decide +kernel) rfl) kX4_init (zWs_in 252 (by decide +kernel) rfl) rfl rfl (by decide) (by omega) (by decide) (Nat.le_of_ble_eq_true rfl) rfl (zLv.r (j := 17) (by omega) rfl (zLv.nil)) (zLv.r (j := 23) (by omega) rfl (zLv.r (j := 17) (by omega) rfl (zLv.nil))) (nX4_init103 (fun j => znew_s) (fun W2 o2 b0 b3 b8 b9 b10 => ?_))
  refine rl_nm (w' := 0) (N' := 28) rfl rfl ?_
  refine rl_putF (pc := 25) (j := 1) (n := 17) (x := 1) dX1_init_25 (C := RX1) (T := TX1) (ci := 1) rfl (by decide) (by decide) uwX1 tyX1_ok nmX1 (zWs_in 296 (by decide +kernel) rfl) rfl rfl rfl (ty := .object "HopscotchCourt$Way") (by decide +kernel) (fun _ => rfl) (fun _ => rfl) rfl (by omega) (by omega) rfl (zfw_r rfl) ?_
  exact rl_ret (pc := 28) dX1_init_28 rfl (hq _ (fun k hk => by rw [zup_other _ (by omega), o2 k (by omega), znew_o (by omega), zup_other _ (by omega), o1 k (by omega), znew_o (by omega)]) ⟨⟨(zup_i (by decide)).trans ((congrFun (o2 97 (by omega)) _).trans ((znew_k (by decide)).trans zup_s)), zup_s⟩, ⟨(zup_k (by decide)).trans ((congrFun (o2 98 (by omega)) _).trans ((znew_k (by decide)).trans ((zup_k (by decide)).trans a0))), (zup_k (by decide)).trans ((congrFun (o2 98 (by omega)) _).trans ((znew_k (by decide)).trans ((zup_k (by decide)).trans a3))), (zup_k (by decide)).trans ((congrFun (o2 98 (by omega)) _).trans ((znew_k (by decide)).trans ((zup_k (by decide)).trans a8))), (zup_k (by decide)).trans ((congrFun (o2 98 (by omega)) _).trans ((znew_k (by decide)).trans ((zup_k (by decide)).trans a9))), (zup_k (by decide)).trans ((congrFun (o2 98 (by omega)) _).trans ((znew_k (by decide)).trans ((zup_k (by decide)).trans a10)))⟩, ⟨(zup_k (by decide)).trans b0, (zup_k (by decide)).trans b3, (zup_k (by decide)).trans b8, (zup_k (by decide)).trans b9, (zup_k (by decide)).trans b10⟩⟩)
def zBh (W : zWd) : Prop := (W 108 0 = 1 ∧ W 108 1 = 0 ∧ W 108 2 = 0) ∧ (∀ i : Int, 0 ≤ i → i < 8 → W 109 i = 1) ∧ ∀ i : Nat, i < 8 → zC0 W (16 + 8 * i)
theorem zBh.cg {W W' : zWd} (h : zBh W) (o : ∀ k : Nat, (16 ≤ k ∧ k < 80) ∨ k = 108 ∨ k = 109 → W' k = W k) : zBh W' := by
  refine ⟨?_, ?_, fun i hi => (h.2.2 i hi).cg (fun k g1 g2 => o k (by omega))⟩
  · rw [o 108 (by omega)]; exact h.1
  · rw [o 109 (by omega)]; exact h.2.1
theorem zcn_of : ∀ i : Nat, i < 8 → zCn (30 + 8 * i) (16 + 8 * i) := by
  intro i hi
  rcases (show i = 0 ∨ i = 1 ∨ i = 2 ∨ i = 3 ∨ i = 4 ∨ i = 5 ∨ i = 6 ∨ i = 7 by omega) with rfl | rfl | rfl | rfl | rfl | rfl | rfl | rfl <;> (unfold zCn; decide +kernel)
