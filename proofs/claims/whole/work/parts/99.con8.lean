theorem nX7_sets {N : Nat} {W : zWd} {q w v : Int} {Q : zWd → Prop} (hN : N ≤ 129) (hm : 128 ≤ N) (hs : W 116 0 = 1) (h0 : 0 ≤ q) (h6 : q < 6) (w0 : 0 ≤ w) (w17 : w < 17) (hq : Q (zup W 117 (58 + 17 * q + w) v)) : EvN MX7_sets 0 0 (N) W [.ref 116, zI q, zI w, zI v] Q := by
  refine ev_ofL (ls := [.ref 116, zI q, zI w, zI v]) (by decide) rfl (fun _ => rfl) (fun _ => Nat.le_of_ble_eq_true rfl) ?_
  refine rl_aload_n (pc := 0) dX7_sets_0 rfl ?_
  refine rl_getR (pc := 1) (n := 116) dX7_sets_1 fX7_7 rfl (by omega) rfl rfl (zset1 hs) ?_
  refine rl_bipush (n := (58)) dX7_sets_4 ?_
  refine rl_bipush (n := (17)) dX7_sets_6 ?_
  refine rl_iload_n (pc := 8) dX7_sets_8 rfl ?_
  refine rl_imul (pc := 9) dX7_sets_9 ?_
  refine rl_iadd (pc := 10) dX7_sets_10 ?_
  refine rl_iload_n (pc := 11) dX7_sets_11 rfl ?_
  refine rl_iadd (pc := 12) dX7_sets_12 ?_
  refine rl_iload_n (pc := 13) dX7_sets_13 rfl ?_
  refine rl_iast (pc := 14) (ix := 117) dX7_sets_14 rfl (by omega) (by omega) rfl (by omega) (by omega) ?_
  exact rl_ret (pc := 15) dX7_sets_15 rfl (hq)
theorem nX7_begins {N : Nat} {W : zWd} {Q : zWd → Prop} (hN : N ≤ 129) (hm : 128 ≤ N) (hs : W 116 0 = 1) (hz : ∀ i : Int, W 117 i = 0) (hq : Q W) : EvN MX7_begins 0 0 (N) W [.ref 116] Q := by
  refine ev_ofL (ls := [.ref 116, .null]) (by decide) rfl (fun _ => rfl) (fun _ => Nat.le_of_ble_eq_true rfl) ?_
  refine rl_iconst (n := 0) dX7_begins_0 ?_
  refine rl_istore_n (pc := 1) dX7_begins_1 (by decide) ?_
  have loop : ∀ (n : Nat) (i : Int), 0 ≤ i → i ≤ 160 → (160 - i).toNat < n → RN MX7_begins 0 0 N W 2 [.ref 116, zI i] [] (zEndL MX7_begins (N + 0) Q) := by
    intro n
    induction n with
    | zero => intro i _ _ hm9; omega
    | succ n ih =>
      intro i h0 h1 hm9
      refine rl_iload_n (pc := 2) dX7_begins_2 rfl ?_
      refine rl_sipush (n := (160)) dX7_begins_3 ?_
      refine rl_icmp_ge (pc := 6) (tgt := 22) dX7_begins_6 (by decide) (by unfold zR; omega) (by unfold zR; omega)  (fun h6 => ?_) (fun h6 => ?_)
      · exact rl_ret (pc := 22) dX7_begins_22 rfl (hq)
      · refine rl_aload_n (pc := 9) dX7_begins_9 rfl ?_
        refine rl_getR (pc := 10) (n := 116) dX7_begins_10 fX7_7 rfl (by omega) rfl rfl (zset1 hs) ?_
        refine rl_iload_n (pc := 13) dX7_begins_13 rfl ?_
        refine rl_iconst (n := 0) dX7_begins_14 ?_
        refine rl_iast (pc := 15) (ix := 117) dX7_begins_15 rfl (by omega) (by omega) rfl (by omega) (by omega) ?_
        rw [zup_id (show W 117 i = 0 from hz i)]
        refine rl_iinc (pc := 16) dX7_begins_16 rfl (by decide) ?_
        refine rl_goto (pc := 19) (tgt := 2) dX7_begins_19 (by decide) ?_
        exact ih (i + 1) (by omega) (by omega) (by omega)
  exact loop 161 0 (by omega) (by omega) (by omega)
theorem nX7_beginsPlayer {N : Nat} {W : zWd} {x : Int} {Q : zWd → Prop} (hN : N ≤ 129) (hm : 128 ≤ N) (hs : W 116 0 = 1) (x0 : 0 ≤ x) (x6 : x < 6) (hz : ∀ i : Int, 0 ≤ i → i < 17 → W 117 (58 + 17 * x + i) = 0) (hq : Q (zup (zup (zup W 117 (58 + 17 * x + 0) 2) 117 (58 + 17 * x + 1) 3) 117 (58 + 17 * x + 2) 1)) : EvN MX7_beginsPlayer 1 0 (N) W [.ref 116, zI x] Q := by
  refine ev_ofL (ls := [.ref 116, zI x, .null]) (by decide) rfl (fun _ => rfl) (fun _ => Nat.le_of_ble_eq_true rfl) ?_
  refine rl_iconst (n := 0) dX7_beginsPlayer_0 ?_
  refine rl_istore_n (pc := 1) dX7_beginsPlayer_1 (by decide) ?_
  have tail : RN MX7_beginsPlayer 1 0 N W 21 [.ref 116, zI x, zI 17] [] (zEndL MX7_beginsPlayer (N + 0) Q) := by
    refine rl_aload_n (pc := 21) dX7_beginsPlayer_21 rfl ?_
    refine rl_iload_n (pc := 22) dX7_beginsPlayer_22 rfl ?_
    refine rl_iconst (n := 0) dX7_beginsPlayer_23 ?_
    refine rl_iconst (n := 2) dX7_beginsPlayer_24 ?_
    refine rl_inv (M' := MX7_sets) (d' := 0) (w' := 0) (k := 116) (ik := 116) (As := [_, _, _]) (pc := 25) dX7_beginsPlayer_25 (zWs_in 1113 (by decide +kernel) rfl) kX7_sets vX7_sets rfl (by decide) (by omega) rfl rfl (by decide) (by omega) (by decide) (Nat.le_of_ble_eq_true rfl) rfl (zLv.r (j := 116) (by omega) rfl (zLv.i (zLv.i (zLv.nil)))) (zLv.nil) (nX7_sets (q := x) (w := 0) (v := 2) (by omega) (by omega) (hs) x0 (by omega) (by decide) (by decide) ?_)
    refine rl_aload_n (pc := 28) dX7_beginsPlayer_28 rfl ?_
    refine rl_iload_n (pc := 29) dX7_beginsPlayer_29 rfl ?_
    refine rl_iconst (n := 1) dX7_beginsPlayer_30 ?_
    refine rl_iconst (n := 3) dX7_beginsPlayer_31 ?_
    refine rl_inv (M' := MX7_sets) (d' := 0) (w' := 0) (k := 116) (ik := 116) (As := [_, _, _]) (pc := 32) dX7_beginsPlayer_32 (zWs_in 1113 (by decide +kernel) rfl) kX7_sets vX7_sets rfl (by decide) (by omega) rfl rfl (by decide) (by omega) (by decide) (Nat.le_of_ble_eq_true rfl) rfl (zLv.r (j := 116) (by omega) rfl (zLv.i (zLv.i (zLv.nil)))) (zLv.nil) (nX7_sets (q := x) (w := 1) (v := 3) (by omega) (by omega) (((zup_k (by decide)).trans hs)) x0 (by omega) (by decide) (by decide) ?_)
    refine rl_aload_n (pc := 35) dX7_beginsPlayer_35 rfl ?_
    refine rl_iload_n (pc := 36) dX7_beginsPlayer_36 rfl ?_
    refine rl_iconst (n := 2) dX7_beginsPlayer_37 ?_
    refine rl_iconst (n := 1) dX7_beginsPlayer_38 ?_
    refine rl_inv (M' := MX7_sets) (d' := 0) (w' := 0) (k := 116) (ik := 116) (As := [_, _, _]) (pc := 39) dX7_beginsPlayer_39 (zWs_in 1113 (by decide +kernel) rfl) kX7_sets vX7_sets rfl (by decide) (by omega) rfl rfl (by decide) (by omega) (by decide) (Nat.le_of_ble_eq_true rfl) rfl (zLv.r (j := 116) (by omega) rfl (zLv.i (zLv.i (zLv.nil)))) (zLv.nil) (nX7_sets (q := x) (w := 2) (v := 1) (by omega) (by omega) (((zup_k (by decide)).trans ((zup_k (by decide)).trans hs))) x0 (by omega) (by decide) (by decide) ?_)
    exact rl_ret (pc := 42) dX7_beginsPlayer_42 rfl (hq)
  have loop : ∀ (n : Nat) (i : Int), 0 ≤ i → i ≤ 17 → (17 - i).toNat < n → RN MX7_beginsPlayer 1 0 N W 2 [.ref 116, zI x, zI i] [] (zEndL MX7_beginsPlayer (N + 0) Q) := by
    intro n
    induction n with
    | zero => intro i _ _ hm9; omega
    | succ n ih =>
      intro i h0 h1 hm9
      refine rl_iload_n (pc := 2) dX7_beginsPlayer_2 rfl ?_
      refine rl_bipush (n := (17)) dX7_beginsPlayer_3 ?_
      refine rl_icmp_ge (pc := 5) (tgt := 21) dX7_beginsPlayer_5 (by decide) (by unfold zR; omega) (by unfold zR; omega)  (fun h5 => ?_) (fun h5 => ?_)
      · have e9 : i = 17 := by omega
        rw [e9]
        exact tail
      · refine rl_aload_n (pc := 8) dX7_beginsPlayer_8 rfl ?_
        refine rl_iload_n (pc := 9) dX7_beginsPlayer_9 rfl ?_
        refine rl_iload_n (pc := 10) dX7_beginsPlayer_10 rfl ?_
        refine rl_iconst (n := 0) dX7_beginsPlayer_11 ?_
        refine rl_inv (M' := MX7_sets) (d' := 0) (w' := 0) (k := 116) (ik := 116) (As := [_, _, _]) (pc := 12) dX7_beginsPlayer_12 (zWs_in 1113 (by decide +kernel) rfl) kX7_sets vX7_sets rfl (by decide) (by omega) rfl rfl (by decide) (by omega) (by decide) (Nat.le_of_ble_eq_true rfl) rfl (zLv.r (j := 116) (by omega) rfl (zLv.i (zLv.i (zLv.nil)))) (zLv.nil) (nX7_sets (q := x) (w := i) (v := 0) (by omega) (by omega) hs x0 (by omega) h0 (by omega) ?_)
        rw [zup_id (show W 117 (58 + 17 * x + i) = 0 from hz i h0 (by omega))]
        refine rl_iinc (pc := 15) dX7_beginsPlayer_15 rfl (by decide) ?_
        refine rl_goto (pc := 18) (tgt := 2) dX7_beginsPlayer_18 (by decide) ?_
        exact ih (i + 1) (by omega) (by omega) (by omega)
  exact loop 18 0 (by omega) (by omega) (by omega)
/-- the reference's beginning, over zeros -/
def zBem (V : zWd) : zWd :=
  let V1 := zup (zup (zup (zup V 117 0 2) 117 8 1) 117 9 1) 117 1 2
  let V2 := zup (zup (zup V1 117 (58 + 17 * 0 + 0) 2) 117 (58 + 17 * 0 + 1) 3) 117 (58 + 17 * 0 + 2) 1
  let V3 := zup V2 117 (58 + 17 * 0 + 9) (97 + 0)
  let V4 := zup (zup (zup V3 117 (58 + 17 * (0 + 1) + 0) 2) 117 (58 + 17 * (0 + 1) + 1) 3) 117 (58 + 17 * (0 + 1) + 2) 1
  let V5 := zup V4 117 (58 + 17 * (0 + 1) + 9) (97 + (0 + 1))
  zup V5 117 2 2
theorem dX7_init_0 : decode cX7_init 0 = .ok (.aload_n 0, 1) := by decide +kernel
theorem dX7_init_1 : decode cX7_init 1 = .ok (.invokespecial 1, 3) := by decide +kernel
theorem dX7_init_4 : decode cX7_init 4 = .ok (.aload_n 0, 1) := by decide +kernel
theorem dX7_init_5 : decode cX7_init 5 = .ok (.sipush 160, 3) := by decide +kernel
theorem dX7_init_8 : decode cX7_init 8 = .ok (.newarray .int, 2) := by decide +kernel
theorem dX7_init_10 : decode cX7_init 10 = .ok (.putfield 7, 3) := by decide +kernel
theorem dX7_init_13 : decode cX7_init 13 = .ok (.aload_n 0, 1) := by decide +kernel
theorem dX7_init_14 : decode cX7_init 14 = .ok (.sipush 160, 3) := by decide +kernel
theorem dX7_init_17 : decode cX7_init 17 = .ok (.newarray .int, 2) := by decide +kernel
theorem dX7_init_19 : decode cX7_init 19 = .ok (.putfield 13, 3) := by decide +kernel
theorem dX7_init_22 : decode cX7_init 22 = .ok (.aload_n 0, 1) := by decide +kernel
theorem dX7_init_23 : decode cX7_init 23 = .ok (.sipush 160, 3) := by decide +kernel
theorem dX7_init_26 : decode cX7_init 26 = .ok (.newarray .int, 2) := by decide +kernel
theorem dX7_init_28 : decode cX7_init 28 = .ok (.putfield 16, 3) := by decide +kernel
theorem dX7_init_31 : decode cX7_init 31 = .ok (.aload_n 0, 1) := by decide +kernel
theorem dX7_init_32 : decode cX7_init 32 = .ok (.sipush 1280, 3) := by decide +kernel
theorem dX7_init_35 : decode cX7_init 35 = .ok (.newarray .int, 2) := by decide +kernel
theorem dX7_init_37 : decode cX7_init 37 = .ok (.putfield 19, 3) := by decide +kernel
theorem dX7_init_40 : decode cX7_init 40 = .ok (.aload_n 0, 1) := by decide +kernel
theorem dX7_init_41 : decode cX7_init 41 = .ok (.sipush 320, 3) := by decide +kernel
theorem dX7_init_44 : decode cX7_init 44 = .ok (.newarray .int, 2) := by decide +kernel
theorem dX7_init_46 : decode cX7_init 46 = .ok (.putfield 22, 3) := by decide +kernel
theorem dX7_init_49 : decode cX7_init 49 = .ok (.aload_n 0, 1) := by decide +kernel
theorem dX7_init_50 : decode cX7_init 50 = .ok (.iconst 2, 1) := by decide +kernel
theorem dX7_init_51 : decode cX7_init 51 = .ok (.newarray .boolean, 2) := by decide +kernel
theorem dX7_init_53 : decode cX7_init 53 = .ok (.putfield 25, 3) := by decide +kernel
theorem dX7_init_56 : decode cX7_init 56 = .ok (.aload_n 0, 1) := by decide +kernel
theorem dX7_init_57 : decode cX7_init 57 = .ok (.sipush 600, 3) := by decide +kernel
theorem dX7_init_60 : decode cX7_init 60 = .ok (.newarray .int, 2) := by decide +kernel
theorem dX7_init_62 : decode cX7_init 62 = .ok (.putfield 29, 3) := by decide +kernel
theorem dX7_init_65 : decode cX7_init 65 = .ok (.aload_n 0, 1) := by decide +kernel
theorem dX7_init_66 : decode cX7_init 66 = .ok (.iconst (-1), 1) := by decide +kernel
theorem dX7_init_67 : decode cX7_init 67 = .ok (.putfield 32, 3) := by decide +kernel
theorem dX7_init_70 : decode cX7_init 70 = .ok (.aload_n 0, 1) := by decide +kernel
theorem dX7_init_71 : decode cX7_init 71 = .ok (.bipush 120, 2) := by decide +kernel
theorem dX7_init_73 : decode cX7_init 73 = .ok (.newarray .int, 2) := by decide +kernel
theorem dX7_init_75 : decode cX7_init 75 = .ok (.putfield 36, 3) := by decide +kernel
theorem dX7_init_78 : decode cX7_init 78 = .ok (.aload_n 0, 1) := by decide +kernel
theorem dX7_init_79 : decode cX7_init 79 = .ok (.bipush 12, 2) := by decide +kernel
theorem dX7_init_81 : decode cX7_init 81 = .ok (.newarray .int, 2) := by decide +kernel
theorem dX7_init_83 : decode cX7_init 83 = .ok (.putfield 39, 3) := by decide +kernel
theorem dX7_init_86 : decode cX7_init 86 = .ok (.aload_n 0, 1) := by decide +kernel
theorem dX7_init_87 : decode cX7_init 87 = .ok (.bipush 12, 2) := by decide +kernel
theorem dX7_init_89 : decode cX7_init 89 = .ok (.newarray .int, 2) := by decide +kernel
theorem dX7_init_91 : decode cX7_init 91 = .ok (.putfield 42, 3) := by decide +kernel
theorem dX7_init_94 : decode cX7_init 94 = .ok (.aload_n 0, 1) := by decide +kernel
theorem dX7_init_95 : decode cX7_init 95 = .ok (.sipush 400, 3) := by decide +kernel
theorem dX7_init_98 : decode cX7_init 98 = .ok (.newarray .int, 2) := by decide +kernel
theorem dX7_init_100 : decode cX7_init 100 = .ok (.putfield 45, 3) := by decide +kernel
theorem dX7_init_103 : decode cX7_init 103 = .ok (.aload_n 0, 1) := by decide +kernel
theorem dX7_init_104 : decode cX7_init 104 = .ok (.invokevirtual 48, 3) := by decide +kernel
theorem dX7_init_107 : decode cX7_init 107 = .ok (.aload_n 0, 1) := by decide +kernel
theorem dX7_init_108 : decode cX7_init 108 = .ok (.getfield 7, 3) := by decide +kernel
theorem dX7_init_111 : decode cX7_init 111 = .ok (.iconst 0, 1) := by decide +kernel
theorem dX7_init_112 : decode cX7_init 112 = .ok (.iconst 2, 1) := by decide +kernel
theorem dX7_init_113 : decode cX7_init 113 = .ok (.iastore, 1) := by decide +kernel
theorem dX7_init_114 : decode cX7_init 114 = .ok (.aload_n 0, 1) := by decide +kernel
theorem dX7_init_115 : decode cX7_init 115 = .ok (.getfield 7, 3) := by decide +kernel
theorem dX7_init_118 : decode cX7_init 118 = .ok (.bipush 8, 2) := by decide +kernel
theorem dX7_init_120 : decode cX7_init 120 = .ok (.iconst 1, 1) := by decide +kernel
theorem dX7_init_121 : decode cX7_init 121 = .ok (.iastore, 1) := by decide +kernel
theorem dX7_init_122 : decode cX7_init 122 = .ok (.aload_n 0, 1) := by decide +kernel
theorem dX7_init_123 : decode cX7_init 123 = .ok (.getfield 7, 3) := by decide +kernel
theorem dX7_init_126 : decode cX7_init 126 = .ok (.bipush 9, 2) := by decide +kernel
theorem dX7_init_128 : decode cX7_init 128 = .ok (.iconst 1, 1) := by decide +kernel
theorem dX7_init_129 : decode cX7_init 129 = .ok (.iastore, 1) := by decide +kernel
theorem dX7_init_130 : decode cX7_init 130 = .ok (.aload_n 0, 1) := by decide +kernel
theorem dX7_init_131 : decode cX7_init 131 = .ok (.getfield 7, 3) := by decide +kernel
theorem dX7_init_134 : decode cX7_init 134 = .ok (.iconst 1, 1) := by decide +kernel
theorem dX7_init_135 : decode cX7_init 135 = .ok (.iconst 2, 1) := by decide +kernel
theorem dX7_init_136 : decode cX7_init 136 = .ok (.iastore, 1) := by decide +kernel
theorem dX7_init_137 : decode cX7_init 137 = .ok (.iconst 0, 1) := by decide +kernel
theorem dX7_init_138 : decode cX7_init 138 = .ok (.istore_n 1, 1) := by decide +kernel
theorem dX7_init_139 : decode cX7_init 139 = .ok (.iload_n 1, 1) := by decide +kernel
theorem dX7_init_140 : decode cX7_init 140 = .ok (.iconst 2, 1) := by decide +kernel
theorem dX7_init_141 : decode cX7_init 141 = .ok (.if_icmp .ge 25, 3) := by decide +kernel
theorem dX7_init_144 : decode cX7_init 144 = .ok (.aload_n 0, 1) := by decide +kernel
theorem dX7_init_145 : decode cX7_init 145 = .ok (.iload_n 1, 1) := by decide +kernel
theorem dX7_init_146 : decode cX7_init 146 = .ok (.invokevirtual 51, 3) := by decide +kernel
theorem dX7_init_149 : decode cX7_init 149 = .ok (.aload_n 0, 1) := by decide +kernel
theorem dX7_init_150 : decode cX7_init 150 = .ok (.iload_n 1, 1) := by decide +kernel
theorem dX7_init_151 : decode cX7_init 151 = .ok (.bipush 9, 2) := by decide +kernel
theorem dX7_init_153 : decode cX7_init 153 = .ok (.bipush 97, 2) := by decide +kernel
theorem dX7_init_155 : decode cX7_init 155 = .ok (.iload_n 1, 1) := by decide +kernel
theorem dX7_init_156 : decode cX7_init 156 = .ok (.iadd, 1) := by decide +kernel
theorem dX7_init_157 : decode cX7_init 157 = .ok (.invokevirtual 55, 3) := by decide +kernel
theorem dX7_init_160 : decode cX7_init 160 = .ok (.iinc 1 1, 3) := by decide +kernel
theorem dX7_init_163 : decode cX7_init 163 = .ok (.goto (-24), 3) := by decide +kernel
theorem dX7_init_166 : decode cX7_init 166 = .ok (.aload_n 0, 1) := by decide +kernel
theorem dX7_init_167 : decode cX7_init 167 = .ok (.getfield 7, 3) := by decide +kernel
theorem dX7_init_170 : decode cX7_init 170 = .ok (.iconst 2, 1) := by decide +kernel
theorem dX7_init_171 : decode cX7_init 171 = .ok (.iconst 2, 1) := by decide +kernel
theorem dX7_init_172 : decode cX7_init 172 = .ok (.iastore, 1) := by decide +kernel
theorem dX7_init_173 : decode cX7_init 173 = .ok (.return_, 1) := by decide +kernel
set_option maxHeartbeats 1000000 in
theorem nX7_init {W : zWd} {Q : zWd → Prop} (h0 : ∀ j : Int, W 116 j = 0) (hq : ∀ V : zWd, V 116 0 = 1 → V 116 1 = 1 → V 116 2 = 1 → V 116 3 = 1 → V 116 4 = 1 → V 116 5 = 1 → V 116 8 = 1 → V 116 17 = 1 → V 116 18 = 1 → V 116 19 = 1 → V 116 25 = 1 → V 116 6 = 0 → V 116 7 = 0 → V 116 9 = 0 → V 116 26 = 0 → V 116 16 = -1 → (∀ i : Int, V 117 i = 0) → (∀ i : Int, V 122 i = 0) → (∀ k : Nat, (k < 116 ∨ 128 ≤ k) → V k = W k) → Q (zBem V)) : EvN MX7_init 2 11 (117) W [.ref 116] Q := by
  refine ev_ofL (ls := [.ref 116, .null]) (by decide) rfl (fun _ => rfl) (fun _ => Nat.le_of_ble_eq_true rfl) ?_
  refine rl_aload_n (pc := 0) dX7_init_0 rfl ?_
  refine rl_obj (pc := 1) dX7_init_1 (zWs_in 1104 (by decide +kernel) rfl) (zWs_in 156 (by decide +kernel) rfl) (zWs_in 157 (by decide +kernel) rfl) (by decide) (by decide) ?_
  refine rl_aload_n (pc := 4) dX7_init_4 rfl ?_
  refine rl_sipush (n := (160)) dX7_init_5 ?_
  refine rl_newa_i (pc := 8) (n := 160) dX7_init_8 (zWs_in 241 (by decide +kernel) rfl) rfl (by omega) (Or.inl (zhc (k := 117) (n0 := 116) (c := 116) (j := 0) rfl rfl rfl (h0 _))) (zLv.r (j := 116) (by omega) rfl (zLv.n (zLv.nil))) (zLv.r (j := 116) (by omega) rfl (zLv.nil)) (by decide) ?_
  rw [show zov 117 = 117 from rfl]
  refine rl_nm (w' := 10) (N' := 118) rfl rfl ?_
  refine rl_putF (pc := 10) (j := 0) (n := 116) (x := 1) dX7_init_10 (C := RX7) (T := TX7) (ci := 7) rfl (by decide) (by decide) uwX7 tyX7_ok nmX7 (zWs_in 1117 (by decide +kernel) rfl) rfl rfl rfl (ty := .array .int) (by decide +kernel) (fun _ => rfl) (fun _ => rfl) rfl (by omega) (by omega) rfl (zfw_r rfl) ?_
  refine rl_aload_n (pc := 13) dX7_init_13 rfl ?_
  refine rl_sipush (n := (160)) dX7_init_14 ?_
  refine rl_newa_i (pc := 17) (n := 160) dX7_init_17 (zWs_in 241 (by decide +kernel) rfl) rfl (by omega) (Or.inl (zhc (k := 118) (n0 := 116) (c := 116) (j := 1) rfl rfl rfl ((zup_i (by decide)).trans ((znew_k (by decide)).trans (h0 _))))) (zLv.r (j := 116) (by omega) rfl (zLv.n (zLv.nil))) (zLv.r (j := 116) (by omega) rfl (zLv.nil)) (by decide) ?_
  rw [show zov 118 = 118 from rfl]
  refine rl_nm (w' := 9) (N' := 119) rfl rfl ?_
  refine rl_putF (pc := 19) (j := 1) (n := 116) (x := 1) dX7_init_19 (C := RX7) (T := TX7) (ci := 7) rfl (by decide) (by decide) uwX7 tyX7_ok nmX7 (zWs_in 1118 (by decide +kernel) rfl) rfl rfl rfl (ty := .array .int) (by decide +kernel) (fun _ => rfl) (fun _ => rfl) rfl (by omega) (by omega) rfl (zfw_r rfl) ?_
  refine rl_aload_n (pc := 22) dX7_init_22 rfl ?_
  refine rl_sipush (n := (160)) dX7_init_23 ?_
  refine rl_newa_i (pc := 26) (n := 160) dX7_init_26 (zWs_in 241 (by decide +kernel) rfl) rfl (by omega) (Or.inl (zhc (k := 119) (n0 := 116) (c := 116) (j := 2) rfl rfl rfl ((zup_i (by decide)).trans ((znew_k (by decide)).trans ((zup_i (by decide)).trans ((znew_k (by decide)).trans (h0 _))))))) (zLv.r (j := 116) (by omega) rfl (zLv.n (zLv.nil))) (zLv.r (j := 116) (by omega) rfl (zLv.nil)) (by decide) ?_
  rw [show zov 119 = 119 from rfl]
  refine rl_nm (w' := 8) (N' := 120) rfl rfl ?_
  refine rl_putF (pc := 28) (j := 2) (n := 116) (x := 1) dX7_init_28 (C := RX7) (T := TX7) (ci := 7) rfl (by decide) (by decide) uwX7 tyX7_ok nmX7 (zWs_in 1119 (by decide +kernel) rfl) rfl rfl rfl (ty := .array .int) (by decide +kernel) (fun _ => rfl) (fun _ => rfl) rfl (by omega) (by omega) rfl (zfw_r rfl) ?_
  refine rl_aload_n (pc := 31) dX7_init_31 rfl ?_
  refine rl_sipush (n := (1280)) dX7_init_32 ?_
  refine rl_newa_i (pc := 35) (n := 1280) dX7_init_35 (zWs_in 241 (by decide +kernel) rfl) rfl (by omega) (Or.inl (zhc (k := 120) (n0 := 116) (c := 116) (j := 3) rfl rfl rfl ((zup_i (by decide)).trans ((znew_k (by decide)).trans ((zup_i (by decide)).trans ((znew_k (by decide)).trans ((zup_i (by decide)).trans ((znew_k (by decide)).trans (h0 _))))))))) (zLv.r (j := 116) (by omega) rfl (zLv.n (zLv.nil))) (zLv.r (j := 116) (by omega) rfl (zLv.nil)) (by decide) ?_
  rw [show zov 120 = 120 from rfl]
  refine rl_nm (w' := 7) (N' := 121) rfl rfl ?_
  refine rl_putF (pc := 37) (j := 3) (n := 116) (x := 1) dX7_init_37 (C := RX7) (T := TX7) (ci := 7) rfl (by decide) (by decide) uwX7 tyX7_ok nmX7 (zWs_in 1120 (by decide +kernel) rfl) rfl rfl rfl (ty := .array .int) (by decide +kernel) (fun _ => rfl) (fun _ => rfl) rfl (by omega) (by omega) rfl (zfw_r rfl) ?_
  refine rl_aload_n (pc := 40) dX7_init_40 rfl ?_
  refine rl_sipush (n := (320)) dX7_init_41 ?_
  refine rl_newa_i (pc := 44) (n := 320) dX7_init_44 (zWs_in 241 (by decide +kernel) rfl) rfl (by omega) (Or.inl (zhc (k := 121) (n0 := 116) (c := 116) (j := 4) rfl rfl rfl ((zup_i (by decide)).trans ((znew_k (by decide)).trans ((zup_i (by decide)).trans ((znew_k (by decide)).trans ((zup_i (by decide)).trans ((znew_k (by decide)).trans ((zup_i (by decide)).trans ((znew_k (by decide)).trans (h0 _))))))))))) (zLv.r (j := 116) (by omega) rfl (zLv.n (zLv.nil))) (zLv.r (j := 116) (by omega) rfl (zLv.nil)) (by decide) ?_
  rw [show zov 121 = 121 from rfl]
  refine rl_nm (w' := 6) (N' := 122) rfl rfl ?_
  refine rl_putF (pc := 46) (j := 4) (n := 116) (x := 1) dX7_init_46 (C := RX7) (T := TX7) (ci := 7) rfl (by decide) (by decide) uwX7 tyX7_ok nmX7 (zWs_in 1121 (by decide +kernel) rfl) rfl rfl rfl (ty := .array .int) (by decide +kernel) (fun _ => rfl) (fun _ => rfl) rfl (by omega) (by omega) rfl (zfw_r rfl) ?_
  refine rl_aload_n (pc := 49) dX7_init_49 rfl ?_
  refine rl_iconst (n := 2) dX7_init_50 ?_
  refine rl_newa_z (pc := 51) (n := 2) dX7_init_51 (zWs_in 354 (by decide +kernel) rfl) rfl (by omega) (Or.inl (zhc (k := 122) (n0 := 116) (c := 116) (j := 5) rfl rfl rfl ((zup_i (by decide)).trans ((znew_k (by decide)).trans ((zup_i (by decide)).trans ((znew_k (by decide)).trans ((zup_i (by decide)).trans ((znew_k (by decide)).trans ((zup_i (by decide)).trans ((znew_k (by decide)).trans ((zup_i (by decide)).trans ((znew_k (by decide)).trans (h0 _))))))))))))) (zLv.r (j := 116) (by omega) rfl (zLv.n (zLv.nil))) (zLv.r (j := 116) (by omega) rfl (zLv.nil)) (by decide) ?_
  rw [show zov 122 = 122 from rfl]
  refine rl_nm (w' := 5) (N' := 123) rfl rfl ?_
  refine rl_putF (pc := 53) (j := 5) (n := 116) (x := 1) dX7_init_53 (C := RX7) (T := TX7) (ci := 7) rfl (by decide) (by decide) uwX7 tyX7_ok nmX7 (zWs_in 1122 (by decide +kernel) rfl) rfl rfl rfl (ty := .array .boolean) (by decide +kernel) (fun _ => rfl) (fun _ => rfl) rfl (by omega) (by omega) rfl (zfw_r rfl) ?_
  refine rl_aload_n (pc := 56) dX7_init_56 rfl ?_
  refine rl_sipush (n := (600)) dX7_init_57 ?_
  refine rl_newa_i (pc := 60) (n := 600) dX7_init_60 (zWs_in 241 (by decide +kernel) rfl) rfl (by omega) (Or.inl (zhc (k := 123) (n0 := 116) (c := 116) (j := 8) rfl rfl rfl ((zup_i (by decide)).trans ((znew_k (by decide)).trans ((zup_i (by decide)).trans ((znew_k (by decide)).trans ((zup_i (by decide)).trans ((znew_k (by decide)).trans ((zup_i (by decide)).trans ((znew_k (by decide)).trans ((zup_i (by decide)).trans ((znew_k (by decide)).trans ((zup_i (by decide)).trans ((znew_k (by decide)).trans (h0 _))))))))))))))) (zLv.r (j := 116) (by omega) rfl (zLv.n (zLv.nil))) (zLv.r (j := 116) (by omega) rfl (zLv.nil)) (by decide) ?_
  rw [show zov 123 = 123 from rfl]
  refine rl_nm (w' := 4) (N' := 124) rfl rfl ?_
  refine rl_putF (pc := 62) (j := 8) (n := 116) (x := 1) dX7_init_62 (C := RX7) (T := TX7) (ci := 7) rfl (by decide) (by decide) uwX7 tyX7_ok nmX7 (zWs_in 1125 (by decide +kernel) rfl) rfl rfl rfl (ty := .array .int) (by decide +kernel) (fun _ => rfl) (fun _ => rfl) rfl (by omega) (by omega) rfl (zfw_r rfl) ?_
  refine rl_aload_n (pc := 65) dX7_init_65 rfl ?_
  refine rl_iconst (n := (-1)) dX7_init_66 ?_
  refine rl_put (pc := 67) (ji := 16) (n := 116) dX7_init_67 fX7_32 fp_7_16 rfl (by omega) (by omega) rfl rfl rfl ?_
  refine rl_aload_n (pc := 70) dX7_init_70 rfl ?_
  refine rl_bipush (n := (120)) dX7_init_71 ?_
  refine rl_newa_i (pc := 73) (n := 120) dX7_init_73 (zWs_in 241 (by decide +kernel) rfl) rfl (by omega) (Or.inl (zhc (k := 124) (n0 := 116) (c := 116) (j := 17) rfl rfl rfl ((zup_i (by decide)).trans ((zup_i (by decide)).trans ((znew_k (by decide)).trans ((zup_i (by decide)).trans ((znew_k (by decide)).trans ((zup_i (by decide)).trans ((znew_k (by decide)).trans ((zup_i (by decide)).trans ((znew_k (by decide)).trans ((zup_i (by decide)).trans ((znew_k (by decide)).trans ((zup_i (by decide)).trans ((znew_k (by decide)).trans ((zup_i (by decide)).trans ((znew_k (by decide)).trans (h0 _)))))))))))))))))) (zLv.r (j := 116) (by omega) rfl (zLv.n (zLv.nil))) (zLv.r (j := 116) (by omega) rfl (zLv.nil)) (by decide) ?_
  rw [show zov 124 = 124 from rfl]
  refine rl_nm (w' := 3) (N' := 125) rfl rfl ?_
  refine rl_putF (pc := 75) (j := 17) (n := 116) (x := 1) dX7_init_75 (C := RX7) (T := TX7) (ci := 7) rfl (by decide) (by decide) uwX7 tyX7_ok nmX7 (zWs_in 1134 (by decide +kernel) rfl) rfl rfl rfl (ty := .array .int) (by decide +kernel) (fun _ => rfl) (fun _ => rfl) rfl (by omega) (by omega) rfl (zfw_r rfl) ?_
  refine rl_aload_n (pc := 78) dX7_init_78 rfl ?_
  refine rl_bipush (n := (12)) dX7_init_79 ?_
  refine rl_newa_i (pc := 81) (n := 12) dX7_init_81 (zWs_in 241 (by decide +kernel) rfl) rfl (by omega) (Or.inl (zhc (k := 125) (n0 := 116) (c := 116) (j := 18) rfl rfl rfl ((zup_i (by decide)).trans ((znew_k (by decide)).trans ((zup_i (by decide)).trans ((zup_i (by decide)).trans ((znew_k (by decide)).trans ((zup_i (by decide)).trans ((znew_k (by decide)).trans ((zup_i (by decide)).trans ((znew_k (by decide)).trans ((zup_i (by decide)).trans ((znew_k (by decide)).trans ((zup_i (by decide)).trans ((znew_k (by decide)).trans ((zup_i (by decide)).trans ((znew_k (by decide)).trans ((zup_i (by decide)).trans ((znew_k (by decide)).trans (h0 _)))))))))))))))))))) (zLv.r (j := 116) (by omega) rfl (zLv.n (zLv.nil))) (zLv.r (j := 116) (by omega) rfl (zLv.nil)) (by decide) ?_
  rw [show zov 125 = 125 from rfl]
  refine rl_nm (w' := 2) (N' := 126) rfl rfl ?_
  refine rl_putF (pc := 83) (j := 18) (n := 116) (x := 1) dX7_init_83 (C := RX7) (T := TX7) (ci := 7) rfl (by decide) (by decide) uwX7 tyX7_ok nmX7 (zWs_in 1135 (by decide +kernel) rfl) rfl rfl rfl (ty := .array .int) (by decide +kernel) (fun _ => rfl) (fun _ => rfl) rfl (by omega) (by omega) rfl (zfw_r rfl) ?_
  refine rl_aload_n (pc := 86) dX7_init_86 rfl ?_
  refine rl_bipush (n := (12)) dX7_init_87 ?_
  refine rl_newa_i (pc := 89) (n := 12) dX7_init_89 (zWs_in 241 (by decide +kernel) rfl) rfl (by omega) (Or.inl (zhc (k := 126) (n0 := 116) (c := 116) (j := 19) rfl rfl rfl ((zup_i (by decide)).trans ((znew_k (by decide)).trans ((zup_i (by decide)).trans ((znew_k (by decide)).trans ((zup_i (by decide)).trans ((zup_i (by decide)).trans ((znew_k (by decide)).trans ((zup_i (by decide)).trans ((znew_k (by decide)).trans ((zup_i (by decide)).trans ((znew_k (by decide)).trans ((zup_i (by decide)).trans ((znew_k (by decide)).trans ((zup_i (by decide)).trans ((znew_k (by decide)).trans ((zup_i (by decide)).trans ((znew_k (by decide)).trans ((zup_i (by decide)).trans ((znew_k (by decide)).trans (h0 _)))))))))))))))))))))) (zLv.r (j := 116) (by omega) rfl (zLv.n (zLv.nil))) (zLv.r (j := 116) (by omega) rfl (zLv.nil)) (by decide) ?_
  rw [show zov 126 = 126 from rfl]
  refine rl_nm (w' := 1) (N' := 127) rfl rfl ?_
  refine rl_putF (pc := 91) (j := 19) (n := 116) (x := 1) dX7_init_91 (C := RX7) (T := TX7) (ci := 7) rfl (by decide) (by decide) uwX7 tyX7_ok nmX7 (zWs_in 1136 (by decide +kernel) rfl) rfl rfl rfl (ty := .array .int) (by decide +kernel) (fun _ => rfl) (fun _ => rfl) rfl (by omega) (by omega) rfl (zfw_r rfl) ?_
  refine rl_aload_n (pc := 94) dX7_init_94 rfl ?_
  refine rl_sipush (n := (400)) dX7_init_95 ?_
  refine rl_newa_i (pc := 98) (n := 400) dX7_init_98 (zWs_in 241 (by decide +kernel) rfl) rfl (by omega) (Or.inl (zhc (k := 127) (n0 := 116) (c := 116) (j := 25) rfl rfl rfl ((zup_i (by decide)).trans ((znew_k (by decide)).trans ((zup_i (by decide)).trans ((znew_k (by decide)).trans ((zup_i (by decide)).trans ((znew_k (by decide)).trans ((zup_i (by decide)).trans ((zup_i (by decide)).trans ((znew_k (by decide)).trans ((zup_i (by decide)).trans ((znew_k (by decide)).trans ((zup_i (by decide)).trans ((znew_k (by decide)).trans ((zup_i (by decide)).trans ((znew_k (by decide)).trans ((zup_i (by decide)).trans ((znew_k (by decide)).trans ((zup_i (by decide)).trans ((znew_k (by decide)).trans ((zup_i (by decide)).trans ((znew_k (by decide)).trans (h0 _)))))))))))))))))))))))) (zLv.r (j := 116) (by omega) rfl (zLv.n (zLv.nil))) (zLv.r (j := 116) (by omega) rfl (zLv.nil)) (by decide) ?_
  rw [show zov 127 = 127 from rfl]
  refine rl_nm (w' := 0) (N' := 128) rfl rfl ?_
  refine rl_putF (pc := 100) (j := 25) (n := 116) (x := 1) dX7_init_100 (C := RX7) (T := TX7) (ci := 7) rfl (by decide) (by decide) uwX7 tyX7_ok nmX7 (zWs_in 1142 (by decide +kernel) rfl) rfl rfl rfl (ty := .array .int) (by decide +kernel) (fun _ => rfl) (fun _ => rfl) rfl (by omega) (by omega) rfl (zfw_r rfl) ?_
  refine rl_eqW (W₁ := (zup (znew (zup (znew (zup (znew (zup (znew (zup (zup (znew (zup (znew (zup (znew (zup (znew (zup (znew (zup (znew (zup (znew W 117) 116 0 1) 118) 116 1 1) 119) 116 2 1) 120) 116 3 1) 121) 116 4 1) 122) 116 5 1) 123) 116 8 1) 116 16 (-1)) 124) 116 17 1) 125) 116 18 1) 126) 116 19 1) 127) 116 25 1)) rfl ?_
  have b0 := (show (zup (znew (zup (znew (zup (znew (zup (znew (zup (zup (znew (zup (znew (zup (znew (zup (znew (zup (znew (zup (znew (zup (znew W 117) 116 0 1) 118) 116 1 1) 119) 116 2 1) 120) 116 3 1) 121) 116 4 1) 122) 116 5 1) 123) 116 8 1) 116 16 (-1)) 124) 116 17 1) 125) 116 18 1) 126) 116 19 1) 127) 116 25 1) 116 0 = 1 from ((zup_i (by decide)).trans ((znew_k (by decide)).trans ((zup_i (by decide)).trans ((znew_k (by decide)).trans ((zup_i (by decide)).trans ((znew_k (by decide)).trans ((zup_i (by decide)).trans ((znew_k (by decide)).trans ((zup_i (by decide)).trans ((zup_i (by decide)).trans ((znew_k (by decide)).trans ((zup_i (by decide)).trans ((znew_k (by decide)).trans ((zup_i (by decide)).trans ((znew_k (by decide)).trans ((zup_i (by decide)).trans ((znew_k (by decide)).trans ((zup_i (by decide)).trans ((znew_k (by decide)).trans ((zup_i (by decide)).trans ((znew_k (by decide)).trans zup_s))))))))))))))))))))))
  have b1 := (show (zup (znew (zup (znew (zup (znew (zup (znew (zup (zup (znew (zup (znew (zup (znew (zup (znew (zup (znew (zup (znew (zup (znew W 117) 116 0 1) 118) 116 1 1) 119) 116 2 1) 120) 116 3 1) 121) 116 4 1) 122) 116 5 1) 123) 116 8 1) 116 16 (-1)) 124) 116 17 1) 125) 116 18 1) 126) 116 19 1) 127) 116 25 1) 116 1 = 1 from ((zup_i (by decide)).trans ((znew_k (by decide)).trans ((zup_i (by decide)).trans ((znew_k (by decide)).trans ((zup_i (by decide)).trans ((znew_k (by decide)).trans ((zup_i (by decide)).trans ((znew_k (by decide)).trans ((zup_i (by decide)).trans ((zup_i (by decide)).trans ((znew_k (by decide)).trans ((zup_i (by decide)).trans ((znew_k (by decide)).trans ((zup_i (by decide)).trans ((znew_k (by decide)).trans ((zup_i (by decide)).trans ((znew_k (by decide)).trans ((zup_i (by decide)).trans ((znew_k (by decide)).trans zup_s))))))))))))))))))))
  have b2 := (show (zup (znew (zup (znew (zup (znew (zup (znew (zup (zup (znew (zup (znew (zup (znew (zup (znew (zup (znew (zup (znew (zup (znew W 117) 116 0 1) 118) 116 1 1) 119) 116 2 1) 120) 116 3 1) 121) 116 4 1) 122) 116 5 1) 123) 116 8 1) 116 16 (-1)) 124) 116 17 1) 125) 116 18 1) 126) 116 19 1) 127) 116 25 1) 116 2 = 1 from ((zup_i (by decide)).trans ((znew_k (by decide)).trans ((zup_i (by decide)).trans ((znew_k (by decide)).trans ((zup_i (by decide)).trans ((znew_k (by decide)).trans ((zup_i (by decide)).trans ((znew_k (by decide)).trans ((zup_i (by decide)).trans ((zup_i (by decide)).trans ((znew_k (by decide)).trans ((zup_i (by decide)).trans ((znew_k (by decide)).trans ((zup_i (by decide)).trans ((znew_k (by decide)).trans ((zup_i (by decide)).trans ((znew_k (by decide)).trans zup_s))))))))))))))))))
  have b3 := (show (zup (znew (zup (znew (zup (znew (zup (znew (zup (zup (znew (zup (znew (zup (znew (zup (znew (zup (znew (zup (znew (zup (znew W 117) 116 0 1) 118) 116 1 1) 119) 116 2 1) 120) 116 3 1) 121) 116 4 1) 122) 116 5 1) 123) 116 8 1) 116 16 (-1)) 124) 116 17 1) 125) 116 18 1) 126) 116 19 1) 127) 116 25 1) 116 3 = 1 from ((zup_i (by decide)).trans ((znew_k (by decide)).trans ((zup_i (by decide)).trans ((znew_k (by decide)).trans ((zup_i (by decide)).trans ((znew_k (by decide)).trans ((zup_i (by decide)).trans ((znew_k (by decide)).trans ((zup_i (by decide)).trans ((zup_i (by decide)).trans ((znew_k (by decide)).trans ((zup_i (by decide)).trans ((znew_k (by decide)).trans ((zup_i (by decide)).trans ((znew_k (by decide)).trans zup_s))))))))))))))))
  have b4 := (show (zup (znew (zup (znew (zup (znew (zup (znew (zup (zup (znew (zup (znew (zup (znew (zup (znew (zup (znew (zup (znew (zup (znew W 117) 116 0 1) 118) 116 1 1) 119) 116 2 1) 120) 116 3 1) 121) 116 4 1) 122) 116 5 1) 123) 116 8 1) 116 16 (-1)) 124) 116 17 1) 125) 116 18 1) 126) 116 19 1) 127) 116 25 1) 116 4 = 1 from ((zup_i (by decide)).trans ((znew_k (by decide)).trans ((zup_i (by decide)).trans ((znew_k (by decide)).trans ((zup_i (by decide)).trans ((znew_k (by decide)).trans ((zup_i (by decide)).trans ((znew_k (by decide)).trans ((zup_i (by decide)).trans ((zup_i (by decide)).trans ((znew_k (by decide)).trans ((zup_i (by decide)).trans ((znew_k (by decide)).trans zup_s))))))))))))))
  have b5 := (show (zup (znew (zup (znew (zup (znew (zup (znew (zup (zup (znew (zup (znew (zup (znew (zup (znew (zup (znew (zup (znew (zup (znew W 117) 116 0 1) 118) 116 1 1) 119) 116 2 1) 120) 116 3 1) 121) 116 4 1) 122) 116 5 1) 123) 116 8 1) 116 16 (-1)) 124) 116 17 1) 125) 116 18 1) 126) 116 19 1) 127) 116 25 1) 116 5 = 1 from ((zup_i (by decide)).trans ((znew_k (by decide)).trans ((zup_i (by decide)).trans ((znew_k (by decide)).trans ((zup_i (by decide)).trans ((znew_k (by decide)).trans ((zup_i (by decide)).trans ((znew_k (by decide)).trans ((zup_i (by decide)).trans ((zup_i (by decide)).trans ((znew_k (by decide)).trans zup_s))))))))))))
  have b8 := (show (zup (znew (zup (znew (zup (znew (zup (znew (zup (zup (znew (zup (znew (zup (znew (zup (znew (zup (znew (zup (znew (zup (znew W 117) 116 0 1) 118) 116 1 1) 119) 116 2 1) 120) 116 3 1) 121) 116 4 1) 122) 116 5 1) 123) 116 8 1) 116 16 (-1)) 124) 116 17 1) 125) 116 18 1) 126) 116 19 1) 127) 116 25 1) 116 8 = 1 from ((zup_i (by decide)).trans ((znew_k (by decide)).trans ((zup_i (by decide)).trans ((znew_k (by decide)).trans ((zup_i (by decide)).trans ((znew_k (by decide)).trans ((zup_i (by decide)).trans ((znew_k (by decide)).trans ((zup_i (by decide)).trans zup_s))))))))))
  have b17 := (show (zup (znew (zup (znew (zup (znew (zup (znew (zup (zup (znew (zup (znew (zup (znew (zup (znew (zup (znew (zup (znew (zup (znew W 117) 116 0 1) 118) 116 1 1) 119) 116 2 1) 120) 116 3 1) 121) 116 4 1) 122) 116 5 1) 123) 116 8 1) 116 16 (-1)) 124) 116 17 1) 125) 116 18 1) 126) 116 19 1) 127) 116 25 1) 116 17 = 1 from ((zup_i (by decide)).trans ((znew_k (by decide)).trans ((zup_i (by decide)).trans ((znew_k (by decide)).trans ((zup_i (by decide)).trans ((znew_k (by decide)).trans zup_s)))))))
  have b18 := (show (zup (znew (zup (znew (zup (znew (zup (znew (zup (zup (znew (zup (znew (zup (znew (zup (znew (zup (znew (zup (znew (zup (znew W 117) 116 0 1) 118) 116 1 1) 119) 116 2 1) 120) 116 3 1) 121) 116 4 1) 122) 116 5 1) 123) 116 8 1) 116 16 (-1)) 124) 116 17 1) 125) 116 18 1) 126) 116 19 1) 127) 116 25 1) 116 18 = 1 from ((zup_i (by decide)).trans ((znew_k (by decide)).trans ((zup_i (by decide)).trans ((znew_k (by decide)).trans zup_s)))))
  have b19 := (show (zup (znew (zup (znew (zup (znew (zup (znew (zup (zup (znew (zup (znew (zup (znew (zup (znew (zup (znew (zup (znew (zup (znew W 117) 116 0 1) 118) 116 1 1) 119) 116 2 1) 120) 116 3 1) 121) 116 4 1) 122) 116 5 1) 123) 116 8 1) 116 16 (-1)) 124) 116 17 1) 125) 116 18 1) 126) 116 19 1) 127) 116 25 1) 116 19 = 1 from ((zup_i (by decide)).trans ((znew_k (by decide)).trans zup_s)))
  have b25 := (show (zup (znew (zup (znew (zup (znew (zup (znew (zup (zup (znew (zup (znew (zup (znew (zup (znew (zup (znew (zup (znew (zup (znew W 117) 116 0 1) 118) 116 1 1) 119) 116 2 1) 120) 116 3 1) 121) 116 4 1) 122) 116 5 1) 123) 116 8 1) 116 16 (-1)) 124) 116 17 1) 125) 116 18 1) 126) 116 19 1) 127) 116 25 1) 116 25 = 1 from zup_s)
  have b6 := (show (zup (znew (zup (znew (zup (znew (zup (znew (zup (zup (znew (zup (znew (zup (znew (zup (znew (zup (znew (zup (znew (zup (znew W 117) 116 0 1) 118) 116 1 1) 119) 116 2 1) 120) 116 3 1) 121) 116 4 1) 122) 116 5 1) 123) 116 8 1) 116 16 (-1)) 124) 116 17 1) 125) 116 18 1) 126) 116 19 1) 127) 116 25 1) 116 6 = 0 from ((zup_i (by decide)).trans ((znew_k (by decide)).trans ((zup_i (by decide)).trans ((znew_k (by decide)).trans ((zup_i (by decide)).trans ((znew_k (by decide)).trans ((zup_i (by decide)).trans ((znew_k (by decide)).trans ((zup_i (by decide)).trans ((zup_i (by decide)).trans ((znew_k (by decide)).trans ((zup_i (by decide)).trans ((znew_k (by decide)).trans ((zup_i (by decide)).trans ((znew_k (by decide)).trans ((zup_i (by decide)).trans ((znew_k (by decide)).trans ((zup_i (by decide)).trans ((znew_k (by decide)).trans ((zup_i (by decide)).trans ((znew_k (by decide)).trans ((zup_i (by decide)).trans ((znew_k (by decide)).trans (h0 _)))))))))))))))))))))))))
  have b7 := (show (zup (znew (zup (znew (zup (znew (zup (znew (zup (zup (znew (zup (znew (zup (znew (zup (znew (zup (znew (zup (znew (zup (znew W 117) 116 0 1) 118) 116 1 1) 119) 116 2 1) 120) 116 3 1) 121) 116 4 1) 122) 116 5 1) 123) 116 8 1) 116 16 (-1)) 124) 116 17 1) 125) 116 18 1) 126) 116 19 1) 127) 116 25 1) 116 7 = 0 from ((zup_i (by decide)).trans ((znew_k (by decide)).trans ((zup_i (by decide)).trans ((znew_k (by decide)).trans ((zup_i (by decide)).trans ((znew_k (by decide)).trans ((zup_i (by decide)).trans ((znew_k (by decide)).trans ((zup_i (by decide)).trans ((zup_i (by decide)).trans ((znew_k (by decide)).trans ((zup_i (by decide)).trans ((znew_k (by decide)).trans ((zup_i (by decide)).trans ((znew_k (by decide)).trans ((zup_i (by decide)).trans ((znew_k (by decide)).trans ((zup_i (by decide)).trans ((znew_k (by decide)).trans ((zup_i (by decide)).trans ((znew_k (by decide)).trans ((zup_i (by decide)).trans ((znew_k (by decide)).trans (h0 _)))))))))))))))))))))))))
  have b9 := (show (zup (znew (zup (znew (zup (znew (zup (znew (zup (zup (znew (zup (znew (zup (znew (zup (znew (zup (znew (zup (znew (zup (znew W 117) 116 0 1) 118) 116 1 1) 119) 116 2 1) 120) 116 3 1) 121) 116 4 1) 122) 116 5 1) 123) 116 8 1) 116 16 (-1)) 124) 116 17 1) 125) 116 18 1) 126) 116 19 1) 127) 116 25 1) 116 9 = 0 from ((zup_i (by decide)).trans ((znew_k (by decide)).trans ((zup_i (by decide)).trans ((znew_k (by decide)).trans ((zup_i (by decide)).trans ((znew_k (by decide)).trans ((zup_i (by decide)).trans ((znew_k (by decide)).trans ((zup_i (by decide)).trans ((zup_i (by decide)).trans ((znew_k (by decide)).trans ((zup_i (by decide)).trans ((znew_k (by decide)).trans ((zup_i (by decide)).trans ((znew_k (by decide)).trans ((zup_i (by decide)).trans ((znew_k (by decide)).trans ((zup_i (by decide)).trans ((znew_k (by decide)).trans ((zup_i (by decide)).trans ((znew_k (by decide)).trans ((zup_i (by decide)).trans ((znew_k (by decide)).trans (h0 _)))))))))))))))))))))))))
  have b26 := (show (zup (znew (zup (znew (zup (znew (zup (znew (zup (zup (znew (zup (znew (zup (znew (zup (znew (zup (znew (zup (znew (zup (znew W 117) 116 0 1) 118) 116 1 1) 119) 116 2 1) 120) 116 3 1) 121) 116 4 1) 122) 116 5 1) 123) 116 8 1) 116 16 (-1)) 124) 116 17 1) 125) 116 18 1) 126) 116 19 1) 127) 116 25 1) 116 26 = 0 from ((zup_i (by decide)).trans ((znew_k (by decide)).trans ((zup_i (by decide)).trans ((znew_k (by decide)).trans ((zup_i (by decide)).trans ((znew_k (by decide)).trans ((zup_i (by decide)).trans ((znew_k (by decide)).trans ((zup_i (by decide)).trans ((zup_i (by decide)).trans ((znew_k (by decide)).trans ((zup_i (by decide)).trans ((znew_k (by decide)).trans ((zup_i (by decide)).trans ((znew_k (by decide)).trans ((zup_i (by decide)).trans ((znew_k (by decide)).trans ((zup_i (by decide)).trans ((znew_k (by decide)).trans ((zup_i (by decide)).trans ((znew_k (by decide)).trans ((zup_i (by decide)).trans ((znew_k (by decide)).trans (h0 _)))))))))))))))))))))))))
  have b16 := (show (zup (znew (zup (znew (zup (znew (zup (znew (zup (zup (znew (zup (znew (zup (znew (zup (znew (zup (znew (zup (znew (zup (znew W 117) 116 0 1) 118) 116 1 1) 119) 116 2 1) 120) 116 3 1) 121) 116 4 1) 122) 116 5 1) 123) 116 8 1) 116 16 (-1)) 124) 116 17 1) 125) 116 18 1) 126) 116 19 1) 127) 116 25 1) 116 16 = -1 from ((zup_i (by decide)).trans ((znew_k (by decide)).trans ((zup_i (by decide)).trans ((znew_k (by decide)).trans ((zup_i (by decide)).trans ((znew_k (by decide)).trans ((zup_i (by decide)).trans ((znew_k (by decide)).trans zup_s)))))))))
  have y117 := (show ∀ i : Int, (zup (znew (zup (znew (zup (znew (zup (znew (zup (zup (znew (zup (znew (zup (znew (zup (znew (zup (znew (zup (znew (zup (znew W 117) 116 0 1) 118) 116 1 1) 119) 116 2 1) 120) 116 3 1) 121) 116 4 1) 122) 116 5 1) 123) 116 8 1) 116 16 (-1)) 124) 116 17 1) 125) 116 18 1) 126) 116 19 1) 127) 116 25 1) 117 i = 0 from fun i => ((zup_k (by decide)).trans ((znew_k (by decide)).trans ((zup_k (by decide)).trans ((znew_k (by decide)).trans ((zup_k (by decide)).trans ((znew_k (by decide)).trans ((zup_k (by decide)).trans ((znew_k (by decide)).trans ((zup_k (by decide)).trans ((zup_k (by decide)).trans ((znew_k (by decide)).trans ((zup_k (by decide)).trans ((znew_k (by decide)).trans ((zup_k (by decide)).trans ((znew_k (by decide)).trans ((zup_k (by decide)).trans ((znew_k (by decide)).trans ((zup_k (by decide)).trans ((znew_k (by decide)).trans ((zup_k (by decide)).trans ((znew_k (by decide)).trans ((zup_k (by decide)).trans znew_s)))))))))))))))))))))))
  have y122 := (show ∀ i : Int, (zup (znew (zup (znew (zup (znew (zup (znew (zup (zup (znew (zup (znew (zup (znew (zup (znew (zup (znew (zup (znew (zup (znew W 117) 116 0 1) 118) 116 1 1) 119) 116 2 1) 120) 116 3 1) 121) 116 4 1) 122) 116 5 1) 123) 116 8 1) 116 16 (-1)) 124) 116 17 1) 125) 116 18 1) 126) 116 19 1) 127) 116 25 1) 122 i = 0 from fun i => ((zup_k (by decide)).trans ((znew_k (by decide)).trans ((zup_k (by decide)).trans ((znew_k (by decide)).trans ((zup_k (by decide)).trans ((znew_k (by decide)).trans ((zup_k (by decide)).trans ((znew_k (by decide)).trans ((zup_k (by decide)).trans ((zup_k (by decide)).trans ((znew_k (by decide)).trans ((zup_k (by decide)).trans znew_s)))))))))))))
  have out := (show ∀ k : Nat, (k < 116 ∨ 128 ≤ k) → (zup (znew (zup (znew (zup (znew (zup (znew (zup (zup (znew (zup (znew (zup (znew (zup (znew (zup (znew (zup (znew (zup (znew W 117) 116 0 1) 118) 116 1 1) 119) 116 2 1) 120) 116 3 1) 121) 116 4 1) 122) 116 5 1) 123) 116 8 1) 116 16 (-1)) 124) 116 17 1) 125) 116 18 1) 126) 116 19 1) 127) 116 25 1) k = W k from fun k gk => by rw [zup_other _ (by omega), znew_o (by omega), zup_other _ (by omega), znew_o (by omega), zup_other _ (by omega), znew_o (by omega), zup_other _ (by omega), znew_o (by omega), zup_other _ (by omega), zup_other _ (by omega), znew_o (by omega), zup_other _ (by omega), znew_o (by omega), zup_other _ (by omega), znew_o (by omega), zup_other _ (by omega), znew_o (by omega), zup_other _ (by omega), znew_o (by omega), zup_other _ (by omega), znew_o (by omega), zup_other _ (by omega), znew_o (by omega)])
  generalize (zup (znew (zup (znew (zup (znew (zup (znew (zup (zup (znew (zup (znew (zup (znew (zup (znew (zup (znew (zup (znew (zup (znew W 117) 116 0 1) 118) 116 1 1) 119) 116 2 1) 120) 116 3 1) 121) 116 4 1) 122) 116 5 1) 123) 116 8 1) 116 16 (-1)) 124) 116 17 1) 125) 116 18 1) 126) 116 19 1) 127) 116 25 1) = V at b0 b1 b2 b3 b4 b5 b8 b17 b18 b19 b25 b6 b7 b9 b26 b16 y117 y122 out ⊢
  refine rl_aload_n (pc := 103) dX7_init_103 rfl ?_
  refine rl_inv (M' := MX7_begins) (d' := 0) (w' := 0) (k := 116) (ik := 116) (As := []) (pc := 104) dX7_init_104 (zWs_in 1105 (by decide +kernel) rfl) kX7_begins vX7_begins rfl (by decide) (by omega) rfl rfl (by decide) (by omega) (by decide) (Nat.le_of_ble_eq_true rfl) rfl (zLv.r (j := 116) (by omega) rfl (zLv.n (zLv.nil))) (zLv.nil) (nX7_begins (by omega) (by omega) b0 y117 ?_)
  refine rl_nm (w' := 0) (N' := 128) rfl rfl ?_
  refine rl_aload_n (pc := 107) dX7_init_107 rfl ?_
  refine rl_getR (pc := 108) (n := 116) dX7_init_108 fX7_7 rfl (by omega) rfl rfl (zset1 b0) ?_
  refine rl_iconst (n := 0) dX7_init_111 ?_
  refine rl_iconst (n := 2) dX7_init_112 ?_
  refine rl_iast (pc := 113) (ix := 117) dX7_init_113 rfl (by omega) (by omega) rfl (by omega) (by omega) ?_
  refine rl_aload_n (pc := 114) dX7_init_114 rfl ?_
  refine rl_getR (pc := 115) (n := 116) dX7_init_115 fX7_7 rfl (by omega) rfl rfl (zset1 ((zup_k (by decide)).trans b0)) ?_
  refine rl_bipush (n := (8)) dX7_init_118 ?_
  refine rl_iconst (n := 1) dX7_init_120 ?_
  refine rl_iast (pc := 121) (ix := 117) dX7_init_121 rfl (by omega) (by omega) rfl (by omega) (by omega) ?_
  refine rl_aload_n (pc := 122) dX7_init_122 rfl ?_
  refine rl_getR (pc := 123) (n := 116) dX7_init_123 fX7_7 rfl (by omega) rfl rfl (zset1 ((zup_k (by decide)).trans ((zup_k (by decide)).trans b0))) ?_
  refine rl_bipush (n := (9)) dX7_init_126 ?_
  refine rl_iconst (n := 1) dX7_init_128 ?_
  refine rl_iast (pc := 129) (ix := 117) dX7_init_129 rfl (by omega) (by omega) rfl (by omega) (by omega) ?_
  refine rl_aload_n (pc := 130) dX7_init_130 rfl ?_
  refine rl_getR (pc := 131) (n := 116) dX7_init_131 fX7_7 rfl (by omega) rfl rfl (zset1 ((zup_k (by decide)).trans ((zup_k (by decide)).trans ((zup_k (by decide)).trans b0)))) ?_
  refine rl_iconst (n := 1) dX7_init_134 ?_
  refine rl_iconst (n := 2) dX7_init_135 ?_
  refine rl_iast (pc := 136) (ix := 117) dX7_init_136 rfl (by omega) (by omega) rfl (by omega) (by omega) ?_
  refine rl_iconst (n := 0) dX7_init_137 ?_
  refine rl_istore_n (pc := 138) dX7_init_138 (by decide) ?_
  refine rl_iload_n (pc := 139) dX7_init_139 rfl ?_
  refine rl_iconst (n := 2) dX7_init_140 ?_
  refine rl_icmp_ge (pc := 141) (tgt := 166) dX7_init_141 (by decide) (by unfold zR; omega) (by unfold zR; omega)  (fun h141 => ?_) (fun h141 => ?_)
  · exact absurd h141 (by decide)
  · refine rl_aload_n (pc := 144) dX7_init_144 rfl ?_
    refine rl_iload_n (pc := 145) dX7_init_145 rfl ?_
    refine rl_inv (M' := MX7_beginsPlayer) (d' := 1) (w' := 0) (k := 116) (ik := 116) (As := [_]) (pc := 146) dX7_init_146 (zWs_in 1109 (by decide +kernel) rfl) kX7_beginsPlayer vX7_beginsPlayer rfl (by decide) (by omega) rfl rfl (by decide) (by omega) (by decide) (Nat.le_of_ble_eq_true rfl) rfl (zLv.r (j := 116) (by omega) rfl (zLv.i (zLv.nil))) (zLv.nil) (nX7_beginsPlayer (x := 0) (by omega) (by omega) ((zup_k (by decide)).trans ((zup_k (by decide)).trans ((zup_k (by decide)).trans ((zup_k (by decide)).trans b0)))) (by decide) (by decide) (fun i g0 g1 => ((zup_i (by omega)).trans ((zup_i (by omega)).trans ((zup_i (by omega)).trans ((zup_i (by omega)).trans (y117 _)))))) ?_)
    refine rl_nm (w' := 0) (N' := 128) rfl rfl ?_
    refine rl_aload_n (pc := 149) dX7_init_149 rfl ?_
    refine rl_iload_n (pc := 150) dX7_init_150 rfl ?_
    refine rl_bipush (n := (9)) dX7_init_151 ?_
    refine rl_bipush (n := (97)) dX7_init_153 ?_
    refine rl_iload_n (pc := 155) dX7_init_155 rfl ?_
    refine rl_iadd (pc := 156) dX7_init_156 ?_
    refine rl_inv (M' := MX7_sets) (d' := 0) (w' := 0) (k := 116) (ik := 116) (As := [_, _, _]) (pc := 157) dX7_init_157 (zWs_in 1113 (by decide +kernel) rfl) kX7_sets vX7_sets rfl (by decide) (by omega) rfl rfl (by decide) (by omega) (by decide) (Nat.le_of_ble_eq_true rfl) rfl (zLv.r (j := 116) (by omega) rfl (zLv.i (zLv.nil))) (zLv.nil) (nX7_sets (q := 0) (w := 9) (v := 97 + 0) (by omega) (by omega) ((zup_k (by decide)).trans ((zup_k (by decide)).trans ((zup_k (by decide)).trans ((zup_k (by decide)).trans ((zup_k (by decide)).trans ((zup_k (by decide)).trans ((zup_k (by decide)).trans b0))))))) (by decide) (by decide) (by decide) (by decide) ?_)
    refine rl_nm (w' := 0) (N' := 128) rfl rfl ?_
    refine rl_iinc (pc := 160) dX7_init_160 rfl (by decide) ?_
    refine rl_goto (pc := 163) (tgt := 139) dX7_init_163 (by decide) ?_
    refine rl_iload_n (pc := 139) dX7_init_139 rfl ?_
    refine rl_iconst (n := 2) dX7_init_140 ?_
    refine rl_icmp_ge (pc := 141) (tgt := 166) dX7_init_141 (by decide) (by unfold zR; omega) (by unfold zR; omega)  (fun h141 => ?_) (fun h141 => ?_)
    · exact absurd h141 (by decide)
    · refine rl_aload_n (pc := 144) dX7_init_144 rfl ?_
      refine rl_iload_n (pc := 145) dX7_init_145 rfl ?_
      refine rl_inv (M' := MX7_beginsPlayer) (d' := 1) (w' := 0) (k := 116) (ik := 116) (As := [_]) (pc := 146) dX7_init_146 (zWs_in 1109 (by decide +kernel) rfl) kX7_beginsPlayer vX7_beginsPlayer rfl (by decide) (by omega) rfl rfl (by decide) (by omega) (by decide) (Nat.le_of_ble_eq_true rfl) rfl (zLv.r (j := 116) (by omega) rfl (zLv.i (zLv.nil))) (zLv.nil) (nX7_beginsPlayer (x := 0 + 1) (by omega) (by omega) ((zup_k (by decide)).trans ((zup_k (by decide)).trans ((zup_k (by decide)).trans ((zup_k (by decide)).trans ((zup_k (by decide)).trans ((zup_k (by decide)).trans ((zup_k (by decide)).trans ((zup_k (by decide)).trans b0)))))))) (by decide) (by decide) (fun i g0 g1 => ((zup_i (by omega)).trans ((zup_i (by omega)).trans ((zup_i (by omega)).trans ((zup_i (by omega)).trans ((zup_i (by omega)).trans ((zup_i (by omega)).trans ((zup_i (by omega)).trans ((zup_i (by omega)).trans (y117 _)))))))))) ?_)
      refine rl_nm (w' := 0) (N' := 128) rfl rfl ?_
      refine rl_aload_n (pc := 149) dX7_init_149 rfl ?_
      refine rl_iload_n (pc := 150) dX7_init_150 rfl ?_
      refine rl_bipush (n := (9)) dX7_init_151 ?_
      refine rl_bipush (n := (97)) dX7_init_153 ?_
      refine rl_iload_n (pc := 155) dX7_init_155 rfl ?_
      refine rl_iadd (pc := 156) dX7_init_156 ?_
      refine rl_inv (M' := MX7_sets) (d' := 0) (w' := 0) (k := 116) (ik := 116) (As := [_, _, _]) (pc := 157) dX7_init_157 (zWs_in 1113 (by decide +kernel) rfl) kX7_sets vX7_sets rfl (by decide) (by omega) rfl rfl (by decide) (by omega) (by decide) (Nat.le_of_ble_eq_true rfl) rfl (zLv.r (j := 116) (by omega) rfl (zLv.i (zLv.nil))) (zLv.nil) (nX7_sets (q := 0 + 1) (w := 9) (v := 97 + (0 + 1)) (by omega) (by omega) ((zup_k (by decide)).trans ((zup_k (by decide)).trans ((zup_k (by decide)).trans ((zup_k (by decide)).trans ((zup_k (by decide)).trans ((zup_k (by decide)).trans ((zup_k (by decide)).trans ((zup_k (by decide)).trans ((zup_k (by decide)).trans ((zup_k (by decide)).trans ((zup_k (by decide)).trans b0))))))))))) (by decide) (by decide) (by decide) (by decide) ?_)
      refine rl_nm (w' := 0) (N' := 128) rfl rfl ?_
      refine rl_iinc (pc := 160) dX7_init_160 rfl (by decide) ?_
      refine rl_goto (pc := 163) (tgt := 139) dX7_init_163 (by decide) ?_
      refine rl_iload_n (pc := 139) dX7_init_139 rfl ?_
      refine rl_iconst (n := 2) dX7_init_140 ?_
      refine rl_icmp_ge (pc := 141) (tgt := 166) dX7_init_141 (by decide) (by unfold zR; omega) (by unfold zR; omega)  (fun h141 => ?_) (fun h141 => ?_)
      · refine rl_aload_n (pc := 166) dX7_init_166 rfl ?_
        refine rl_getR (pc := 167) (n := 116) dX7_init_167 fX7_7 rfl (by omega) rfl rfl (zset1 ((zup_k (by decide)).trans ((zup_k (by decide)).trans ((zup_k (by decide)).trans ((zup_k (by decide)).trans ((zup_k (by decide)).trans ((zup_k (by decide)).trans ((zup_k (by decide)).trans ((zup_k (by decide)).trans ((zup_k (by decide)).trans ((zup_k (by decide)).trans ((zup_k (by decide)).trans ((zup_k (by decide)).trans b0))))))))))))) ?_
        refine rl_iconst (n := 2) dX7_init_170 ?_
        refine rl_iconst (n := 2) dX7_init_171 ?_
        refine rl_iast (pc := 172) (ix := 117) dX7_init_172 rfl (by omega) (by omega) rfl (by omega) (by omega) ?_
        exact rl_ret (pc := 173) dX7_init_173 rfl (hq V b0 b1 b2 b3 b4 b5 b8 b17 b18 b19 b25 b6 b7 b9 b26 b16 y117 y122 out)
      · exact absurd h141 (by decide)
