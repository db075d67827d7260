/-! THE REFERENCE: its row a is W 117 -/
theorem zup_at {W : zWd} {k : Nat} {i v : Int} : zup W k i v k = iup (W k) i v := by
  funext j; unfold zup iup; rw [if_pos rfl]
def zOfm (W W' : zWd) : Prop := ∀ k : Nat, k ≠ 117 → W' k = W k
theorem z_nb {P : Prop} [Decidable P] : narrow .boolean (zI (if P then 1 else 0)) = zI (if P then 1 else 0) := by split <;> rfl
theorem zOfm.rf {W : zWd} : zOfm W W := fun _ _ => rfl
theorem zOfm.tr {W W' W'' : zWd} (h : zOfm W W') (h2 : zOfm W' W'') : zOfm W W'' := fun k g => (h2 k g).trans (h k g)
theorem zOfm.up {W W' : zWd} {i v : Int} (h : zOfm W W') : zOfm W (zup W' 117 i v) := fun k g => by rw [zup_other k g]; exact h k g
theorem dX7_isIn_0 : decode cX7_isIn 0 = .ok (.iload_n 0, 1) := by decide +kernel
theorem dX7_isIn_1 : decode cX7_isIn 1 = .ok (.iload_n 1, 1) := by decide +kernel
theorem dX7_isIn_2 : decode cX7_isIn 2 = .ok (.if_icmp .lt 12, 3) := by decide +kernel
theorem dX7_isIn_5 : decode cX7_isIn 5 = .ok (.iload_n 0, 1) := by decide +kernel
theorem dX7_isIn_6 : decode cX7_isIn 6 = .ok (.iload_n 2, 1) := by decide +kernel
theorem dX7_isIn_7 : decode cX7_isIn 7 = .ok (.if_icmp .gt 7, 3) := by decide +kernel
theorem dX7_isIn_10 : decode cX7_isIn 10 = .ok (.iconst 1, 1) := by decide +kernel
theorem dX7_isIn_11 : decode cX7_isIn 11 = .ok (.goto 4, 3) := by decide +kernel
theorem dX7_isIn_14 : decode cX7_isIn 14 = .ok (.iconst 0, 1) := by decide +kernel
theorem dX7_isIn_15 : decode cX7_isIn 15 = .ok (.ireturn, 1) := by decide +kernel
theorem eX7_isIn {W : zWd} {v lo hi : Int} {Q : Option Value → zWd → Prop} {X : zX} (h0 : zR v) (h1 : zR lo) (h2 : zR hi) (hq : Q (some (zI (if lo ≤ v ∧ v ≤ hi then 1 else 0))) W) : Ev MX7_isIn 0 0 W [zI v, zI lo, zI hi] Q X := by
  refine ev_of (ls := [zI v, zI lo, zI hi]) (by decide) rfl (fun _ => rfl) (fun _ => Nat.le_of_ble_eq_true rfl) (Or.inl rfl) ?_
  refine rr_iload_n (pc := 0) dX7_isIn_0 rfl ?_
  refine rr_iload_n (pc := 1) dX7_isIn_1 rfl ?_
  refine rr_icmp_lt (pc := 2) (tgt := 14) dX7_isIn_2 (by decide) h0 h1 (fun g2 => ?_) (fun g2 => ?_)
  · refine rr_iconst (n := 0) dX7_isIn_14 ?_
    exact rr_reti (pc := 15) dX7_isIn_15 rfl rfl (if_neg (by omega)).symm rfl (hq)
  · refine rr_iload_n (pc := 5) dX7_isIn_5 rfl ?_
    refine rr_iload_n (pc := 6) dX7_isIn_6 rfl ?_
    refine rr_icmp_gt (pc := 7) (tgt := 14) dX7_isIn_7 (by decide) h0 h2 (fun g7 => ?_) (fun g7 => ?_)
    · refine rr_iconst (n := 0) dX7_isIn_14 ?_
      exact rr_reti (pc := 15) dX7_isIn_15 rfl rfl (if_neg (by omega)).symm rfl (hq)
    · refine rr_iconst (n := 1) dX7_isIn_10 ?_
      refine rr_goto (pc := 11) (tgt := 15) dX7_isIn_11 (by decide) ?_
      exact rr_reti (pc := 15) dX7_isIn_15 rfl rfl (if_pos (by omega)).symm rfl (hq)
theorem dX7_of_0 : decode cX7_of 0 = .ok (.aload_n 0, 1) := by decide +kernel
theorem dX7_of_1 : decode cX7_of 1 = .ok (.getfield 7, 3) := by decide +kernel
theorem dX7_of_4 : decode cX7_of 4 = .ok (.bipush 58, 2) := by decide +kernel
theorem dX7_of_6 : decode cX7_of 6 = .ok (.bipush 17, 2) := by decide +kernel
theorem dX7_of_8 : decode cX7_of 8 = .ok (.iload_n 1, 1) := by decide +kernel
theorem dX7_of_9 : decode cX7_of 9 = .ok (.imul, 1) := by decide +kernel
theorem dX7_of_10 : decode cX7_of 10 = .ok (.iadd, 1) := by decide +kernel
theorem dX7_of_11 : decode cX7_of 11 = .ok (.iload_n 2, 1) := by decide +kernel
theorem dX7_of_12 : decode cX7_of 12 = .ok (.iadd, 1) := by decide +kernel
theorem dX7_of_13 : decode cX7_of 13 = .ok (.iaload, 1) := by decide +kernel
theorem dX7_of_14 : decode cX7_of 14 = .ok (.ireturn, 1) := by decide +kernel
theorem eX7_of {W : zWd} {p w : Int} {Q : Option Value → zWd → Prop} {X : zX} (h0 : 0 ≤ p) (h1 : p < 6) (h2 : 0 ≤ w) (h3 : w < 17) (hq : Q (some (zI (aP (W 117) p w))) W) : Ev MX7_of 0 0 W [.ref 116, zI p, zI w] Q X := by
  refine ev_of (ls := [.ref 116, zI p, zI w]) (by decide) rfl (fun _ => rfl) (fun _ => Nat.le_of_ble_eq_true rfl) (Or.inl rfl) ?_
  refine rr_aload_n (pc := 0) dX7_of_0 rfl ?_
  refine rr_getR (pc := 1) dX7_of_1 fX7_7 zk_116 zr_116_0 ?_
  refine rr_bipush (n := (58)) dX7_of_4 ?_
  refine rr_bipush (n := (17)) dX7_of_6 ?_
  refine rr_iload_n (pc := 8) dX7_of_8 rfl ?_
  refine rr_imul (pc := 9) dX7_of_9 ?_
  refine rr_iadd (pc := 10) dX7_of_10 ?_
  refine rr_iload_n (pc := 11) dX7_of_11 rfl ?_
  refine rr_iadd (pc := 12) dX7_of_12 ?_
  refine rr_iald (pc := 13) dX7_of_13 zk_117 (by omega) (by omega) ?_
  exact rr_reti (pc := 14) dX7_of_14 rfl rfl rfl rfl (hq)
theorem dX7_sets_0 : decode cX7_sets 0 = .ok (.aload_n 0, 1) := by decide +kernel
theorem dX7_sets_1 : decode cX7_sets 1 = .ok (.getfield 7, 3) := by decide +kernel
theorem dX7_sets_4 : decode cX7_sets 4 = .ok (.bipush 58, 2) := by decide +kernel
theorem dX7_sets_6 : decode cX7_sets 6 = .ok (.bipush 17, 2) := by decide +kernel
theorem dX7_sets_8 : decode cX7_sets 8 = .ok (.iload_n 1, 1) := by decide +kernel
theorem dX7_sets_9 : decode cX7_sets 9 = .ok (.imul, 1) := by decide +kernel
theorem dX7_sets_10 : decode cX7_sets 10 = .ok (.iadd, 1) := by decide +kernel
theorem dX7_sets_11 : decode cX7_sets 11 = .ok (.iload_n 2, 1) := by decide +kernel
theorem dX7_sets_12 : decode cX7_sets 12 = .ok (.iadd, 1) := by decide +kernel
theorem dX7_sets_13 : decode cX7_sets 13 = .ok (.iload_n 3, 1) := by decide +kernel
theorem dX7_sets_14 : decode cX7_sets 14 = .ok (.iastore, 1) := by decide +kernel
theorem dX7_sets_15 : decode cX7_sets 15 = .ok (.return_, 1) := by decide +kernel
theorem eX7_sets {W : zWd} {p w v : Int} {Q : Option Value → zWd → Prop} {X : zX} (h0 : 0 ≤ p) (h1 : p < 6) (h2 : 0 ≤ w) (h3 : w < 17) (hq : Q none (zup W 117 (58 + 17 * p + w) v)) : Ev MX7_sets 0 0 W [.ref 116, zI p, zI w, zI v] Q X := by
  refine ev_of (ls := [.ref 116, zI p, zI w, zI v]) (by decide) rfl (fun _ => rfl) (fun _ => Nat.le_of_ble_eq_true rfl) (Or.inl rfl) ?_
  refine rr_aload_n (pc := 0) dX7_sets_0 rfl ?_
  refine rr_getR (pc := 1) dX7_sets_1 fX7_7 zk_116 zr_116_0 ?_
  refine rr_bipush (n := (58)) dX7_sets_4 ?_
  refine rr_bipush (n := (17)) dX7_sets_6 ?_
  refine rr_iload_n (pc := 8) dX7_sets_8 rfl ?_
  refine rr_imul (pc := 9) dX7_sets_9 ?_
  refine rr_iadd (pc := 10) dX7_sets_10 ?_
  refine rr_iload_n (pc := 11) dX7_sets_11 rfl ?_
  refine rr_iadd (pc := 12) dX7_sets_12 ?_
  refine rr_iload_n (pc := 13) dX7_sets_13 rfl ?_
  refine rr_iast (pc := 14) dX7_sets_14 zk_117 (by omega) (by omega) ?_
  exact rr_retv (pc := 15) dX7_sets_15 rfl rfl (hq)
theorem dX7_ownerOf_0 : decode cX7_ownerOf 0 = .ok (.aload_n 0, 1) := by decide +kernel
theorem dX7_ownerOf_1 : decode cX7_ownerOf 1 = .ok (.getfield 7, 3) := by decide +kernel
theorem dX7_ownerOf_4 : decode cX7_ownerOf 4 = .ok (.bipush 18, 2) := by decide +kernel
theorem dX7_ownerOf_6 : decode cX7_ownerOf 6 = .ok (.iconst 2, 1) := by decide +kernel
theorem dX7_ownerOf_7 : decode cX7_ownerOf 7 = .ok (.iload_n 1, 1) := by decide +kernel
theorem dX7_ownerOf_8 : decode cX7_ownerOf 8 = .ok (.iconst 1, 1) := by decide +kernel
theorem dX7_ownerOf_9 : decode cX7_ownerOf 9 = .ok (.isub, 1) := by decide +kernel
theorem dX7_ownerOf_10 : decode cX7_ownerOf 10 = .ok (.imul, 1) := by decide +kernel
theorem dX7_ownerOf_11 : decode cX7_ownerOf 11 = .ok (.iadd, 1) := by decide +kernel
theorem dX7_ownerOf_12 : decode cX7_ownerOf 12 = .ok (.iaload, 1) := by decide +kernel
theorem dX7_ownerOf_13 : decode cX7_ownerOf 13 = .ok (.iconst 1, 1) := by decide +kernel
theorem dX7_ownerOf_14 : decode cX7_ownerOf 14 = .ok (.isub, 1) := by decide +kernel
theorem dX7_ownerOf_15 : decode cX7_ownerOf 15 = .ok (.ireturn, 1) := by decide +kernel
theorem eX7_ownerOf {W : zWd} {s : Int} {Q : Option Value → zWd → Prop} {X : zX} (h0 : 1 ≤ s) (h1 : s ≤ 20) (hq : Q (some (zI (aO (W 117) s))) W) : Ev MX7_ownerOf 0 0 W [.ref 116, zI s] Q X := by
  refine ev_of (ls := [.ref 116, zI s]) (by decide) rfl (fun _ => rfl) (fun _ => Nat.le_of_ble_eq_true rfl) (Or.inl rfl) ?_
  refine rr_aload_n (pc := 0) dX7_ownerOf_0 rfl ?_
  refine rr_getR (pc := 1) dX7_ownerOf_1 fX7_7 zk_116 zr_116_0 ?_
  refine rr_bipush (n := (18)) dX7_ownerOf_4 ?_
  refine rr_iconst (n := 2) dX7_ownerOf_6 ?_
  refine rr_iload_n (pc := 7) dX7_ownerOf_7 rfl ?_
  refine rr_iconst (n := 1) dX7_ownerOf_8 ?_
  refine rr_isub (pc := 9) dX7_ownerOf_9 ?_
  refine rr_imul (pc := 10) dX7_ownerOf_10 ?_
  refine rr_iadd (pc := 11) dX7_ownerOf_11 ?_
  refine rr_iald (pc := 12) dX7_ownerOf_12 zk_117 (by omega) (by omega) ?_
  refine rr_iconst (n := 1) dX7_ownerOf_13 ?_
  refine rr_isub (pc := 14) dX7_ownerOf_14 ?_
  exact rr_reti (pc := 15) dX7_ownerOf_15 rfl rfl rfl rfl (hq)
theorem dX7_owns_0 : decode cX7_owns 0 = .ok (.aload_n 0, 1) := by decide +kernel
theorem dX7_owns_1 : decode cX7_owns 1 = .ok (.getfield 7, 3) := by decide +kernel
theorem dX7_owns_4 : decode cX7_owns 4 = .ok (.bipush 18, 2) := by decide +kernel
theorem dX7_owns_6 : decode cX7_owns 6 = .ok (.iconst 2, 1) := by decide +kernel
theorem dX7_owns_7 : decode cX7_owns 7 = .ok (.iload_n 1, 1) := by decide +kernel
theorem dX7_owns_8 : decode cX7_owns 8 = .ok (.iconst 1, 1) := by decide +kernel
theorem dX7_owns_9 : decode cX7_owns 9 = .ok (.isub, 1) := by decide +kernel
theorem dX7_owns_10 : decode cX7_owns 10 = .ok (.imul, 1) := by decide +kernel
theorem dX7_owns_11 : decode cX7_owns 11 = .ok (.iadd, 1) := by decide +kernel
theorem dX7_owns_12 : decode cX7_owns 12 = .ok (.iload_n 2, 1) := by decide +kernel
theorem dX7_owns_13 : decode cX7_owns 13 = .ok (.iconst 1, 1) := by decide +kernel
theorem dX7_owns_14 : decode cX7_owns 14 = .ok (.iadd, 1) := by decide +kernel
theorem dX7_owns_15 : decode cX7_owns 15 = .ok (.iastore, 1) := by decide +kernel
theorem dX7_owns_16 : decode cX7_owns 16 = .ok (.return_, 1) := by decide +kernel
theorem eX7_owns {W : zWd} {s v : Int} {Q : Option Value → zWd → Prop} {X : zX} (h0 : 1 ≤ s) (h1 : s ≤ 20) (hq : Q none (zup W 117 (18 + 2 * (s - 1)) (v + 1))) : Ev MX7_owns 0 0 W [.ref 116, zI s, zI v] Q X := by
  refine ev_of (ls := [.ref 116, zI s, zI v]) (by decide) rfl (fun _ => rfl) (fun _ => Nat.le_of_ble_eq_true rfl) (Or.inl rfl) ?_
  refine rr_aload_n (pc := 0) dX7_owns_0 rfl ?_
  refine rr_getR (pc := 1) dX7_owns_1 fX7_7 zk_116 zr_116_0 ?_
  refine rr_bipush (n := (18)) dX7_owns_4 ?_
  refine rr_iconst (n := 2) dX7_owns_6 ?_
  refine rr_iload_n (pc := 7) dX7_owns_7 rfl ?_
  refine rr_iconst (n := 1) dX7_owns_8 ?_
  refine rr_isub (pc := 9) dX7_owns_9 ?_
  refine rr_imul (pc := 10) dX7_owns_10 ?_
  refine rr_iadd (pc := 11) dX7_owns_11 ?_
  refine rr_iload_n (pc := 12) dX7_owns_12 rfl ?_
  refine rr_iconst (n := 1) dX7_owns_13 ?_
  refine rr_iadd (pc := 14) dX7_owns_14 ?_
  refine rr_iast (pc := 15) dX7_owns_15 zk_117 (by omega) (by omega) ?_
  exact rr_retv (pc := 16) dX7_owns_16 rfl rfl (hq)
theorem dX7_squares_0 : decode cX7_squares 0 = .ok (.aload_n 0, 1) := by decide +kernel
theorem dX7_squares_1 : decode cX7_squares 1 = .ok (.getfield 7, 3) := by decide +kernel
theorem dX7_squares_4 : decode cX7_squares 4 = .ok (.iconst 1, 1) := by decide +kernel
theorem dX7_squares_5 : decode cX7_squares 5 = .ok (.iaload, 1) := by decide +kernel
theorem dX7_squares_6 : decode cX7_squares 6 = .ok (.ireturn, 1) := by decide +kernel
theorem eX7_squares {W : zWd} {Q : Option Value → zWd → Prop} {X : zX} (hq : Q (some (zI (W 117 1))) W) : Ev MX7_squares 0 0 W [.ref 116] Q X := by
  refine ev_of (ls := [.ref 116]) (by decide) rfl (fun _ => rfl) (fun _ => Nat.le_of_ble_eq_true rfl) (Or.inl rfl) ?_
  refine rr_aload_n (pc := 0) dX7_squares_0 rfl ?_
  refine rr_getR (pc := 1) dX7_squares_1 fX7_7 zk_116 zr_116_0 ?_
  refine rr_iconst (n := 1) dX7_squares_4 ?_
  refine rr_iald (pc := 5) dX7_squares_5 zk_117 (by omega) (by omega) ?_
  exact rr_reti (pc := 6) dX7_squares_6 rfl rfl rfl rfl (hq)
theorem dX7_players_0 : decode cX7_players 0 = .ok (.aload_n 0, 1) := by decide +kernel
theorem dX7_players_1 : decode cX7_players 1 = .ok (.getfield 7, 3) := by decide +kernel
theorem dX7_players_4 : decode cX7_players 4 = .ok (.iconst 2, 1) := by decide +kernel
theorem dX7_players_5 : decode cX7_players 5 = .ok (.iaload, 1) := by decide +kernel
theorem dX7_players_6 : decode cX7_players 6 = .ok (.ireturn, 1) := by decide +kernel
theorem eX7_players {W : zWd} {Q : Option Value → zWd → Prop} {X : zX} (hq : Q (some (zI (W 117 2))) W) : Ev MX7_players 0 0 W [.ref 116] Q X := by
  refine ev_of (ls := [.ref 116]) (by decide) rfl (fun _ => rfl) (fun _ => Nat.le_of_ble_eq_true rfl) (Or.inl rfl) ?_
  refine rr_aload_n (pc := 0) dX7_players_0 rfl ?_
  refine rr_getR (pc := 1) dX7_players_1 fX7_7 zk_116 zr_116_0 ?_
  refine rr_iconst (n := 2) dX7_players_4 ?_
  refine rr_iald (pc := 5) dX7_players_5 zk_117 (by omega) (by omega) ?_
  exact rr_reti (pc := 6) dX7_players_6 rfl rfl rfl rfl (hq)
theorem dX7_isPlayer_0 : decode cX7_isPlayer 0 = .ok (.iload_n 1, 1) := by decide +kernel
theorem dX7_isPlayer_1 : decode cX7_isPlayer 1 = .ok (.iconst 0, 1) := by decide +kernel
theorem dX7_isPlayer_2 : decode cX7_isPlayer 2 = .ok (.aload_n 0, 1) := by decide +kernel
theorem dX7_isPlayer_3 : decode cX7_isPlayer 3 = .ok (.invokevirtual 203, 3) := by decide +kernel
theorem dX7_isPlayer_6 : decode cX7_isPlayer 6 = .ok (.iconst 1, 1) := by decide +kernel
theorem dX7_isPlayer_7 : decode cX7_isPlayer 7 = .ok (.isub, 1) := by decide +kernel
theorem dX7_isPlayer_8 : decode cX7_isPlayer 8 = .ok (.invokestatic 69, 3) := by decide +kernel
theorem dX7_isPlayer_11 : decode cX7_isPlayer 11 = .ok (.ireturn, 1) := by decide +kernel
theorem eX7_isPlayer {W : zWd} {a : Int → Int} {T : Int} {p : Int} {Q : Option Value → zWd → Prop} {X : zX} (ha : W 117 = a) (hw : zWf T a) (hz : zR p) (hq : Q (some (zI (if 0 ≤ p ∧ p < a 2 then 1 else 0))) W) : Ev MX7_isPlayer 1 0 W [.ref 116, zI p] Q X := by
  refine ev_of (ls := [.ref 116, zI p]) (by decide) rfl (fun _ => rfl) (fun _ => Nat.le_of_ble_eq_true rfl) (Or.inl rfl) ?_
  subst ha
  obtain ⟨w0, w0', wW, w1, w2, w2', w3, w3', w4, w4', w5, w5', w6, w6', w7, w7', wS, wP, wT⟩ := id hw
  have wq := zWf.sq hw
  refine rr_iload_n (pc := 0) dX7_isPlayer_0 rfl ?_
  refine rr_iconst (n := 0) dX7_isPlayer_1 ?_
  refine rr_aload_n (pc := 2) dX7_isPlayer_2 rfl ?_
  refine rr_inv0 (M' := MX7_players) (k := 116) (As := []) (pc := 3) dX7_isPlayer_3 lX7_203 kX7_players vX7_players zk_116 (by decide) rfl (by decide) (by decide) (Nat.le_of_ble_eq_true rfl) rfl (eX7_players ?_)
  refine rr_iconst (n := 1) dX7_isPlayer_6 ?_
  refine rr_isub (pc := 7) dX7_isPlayer_7 ?_
  refine rr_sta0 (M' := MX7_isIn) (As := [_, _, _]) (pc := 8) dX7_isPlayer_8 lX7_69 kX7_isIn sX7_isIn (by decide) (by decide) (Nat.le_of_ble_eq_true rfl) rfl (eX7_isIn hz (by unfold zR; omega) (by unfold zR; omega) ?_)
  exact rr_reti (pc := 11) dX7_isPlayer_11 rfl z_nb (by by_cases q : 0 ≤ p ∧ p < W 117 2; rw [if_pos q, if_pos (by omega)]; rw [if_neg q, if_neg (by omega)]) rfl (hq)
theorem dX7_isSquare_0 : decode cX7_isSquare 0 = .ok (.iload_n 1, 1) := by decide +kernel
theorem dX7_isSquare_1 : decode cX7_isSquare 1 = .ok (.iconst 1, 1) := by decide +kernel
theorem dX7_isSquare_2 : decode cX7_isSquare 2 = .ok (.aload_n 0, 1) := by decide +kernel
theorem dX7_isSquare_3 : decode cX7_isSquare 3 = .ok (.invokevirtual 209, 3) := by decide +kernel
theorem dX7_isSquare_6 : decode cX7_isSquare 6 = .ok (.invokestatic 69, 3) := by decide +kernel
theorem dX7_isSquare_9 : decode cX7_isSquare 9 = .ok (.ireturn, 1) := by decide +kernel
theorem eX7_isSquare {W : zWd} {a : Int → Int} {T : Int} {s : Int} {Q : Option Value → zWd → Prop} {X : zX} (ha : W 117 = a) (hw : zWf T a) (hz : zR s) (hq : Q (some (zI (if 1 ≤ s ∧ s ≤ a 1 then 1 else 0))) W) : Ev MX7_isSquare 1 0 W [.ref 116, zI s] Q X := by
  refine ev_of (ls := [.ref 116, zI s]) (by decide) rfl (fun _ => rfl) (fun _ => Nat.le_of_ble_eq_true rfl) (Or.inl rfl) ?_
  subst ha
  obtain ⟨w0, w0', wW, w1, w2, w2', w3, w3', w4, w4', w5, w5', w6, w6', w7, w7', wS, wP, wT⟩ := id hw
  have wq := zWf.sq hw
  refine rr_iload_n (pc := 0) dX7_isSquare_0 rfl ?_
  refine rr_iconst (n := 1) dX7_isSquare_1 ?_
  refine rr_aload_n (pc := 2) dX7_isSquare_2 rfl ?_
  refine rr_inv0 (M' := MX7_squares) (k := 116) (As := []) (pc := 3) dX7_isSquare_3 lX7_209 kX7_squares vX7_squares zk_116 (by decide) rfl (by decide) (by decide) (Nat.le_of_ble_eq_true rfl) rfl (eX7_squares ?_)
  refine rr_sta0 (M' := MX7_isIn) (As := [_, _, _]) (pc := 6) dX7_isSquare_6 lX7_69 kX7_isIn sX7_isIn (by decide) (by decide) (Nat.le_of_ble_eq_true rfl) rfl (eX7_isIn hz (by unfold zR; omega) (by unfold zR; omega) ?_)
  exact rr_reti (pc := 9) dX7_isSquare_9 rfl z_nb rfl rfl (hq)
theorem dX7_firstOf_0 : decode cX7_firstOf 0 = .ok (.iconst 1, 1) := by decide +kernel
theorem dX7_firstOf_1 : decode cX7_firstOf 1 = .ok (.istore_n 2, 1) := by decide +kernel
theorem dX7_firstOf_2 : decode cX7_firstOf 2 = .ok (.iconst 0, 1) := by decide +kernel
theorem dX7_firstOf_3 : decode cX7_firstOf 3 = .ok (.istore_n 3, 1) := by decide +kernel
theorem dX7_firstOf_4 : decode cX7_firstOf 4 = .ok (.iload_n 3, 1) := by decide +kernel
theorem dX7_firstOf_5 : decode cX7_firstOf 5 = .ok (.iload_n 1, 1) := by decide +kernel
theorem dX7_firstOf_6 : decode cX7_firstOf 6 = .ok (.if_icmp .ge 21, 3) := by decide +kernel
theorem dX7_firstOf_9 : decode cX7_firstOf 9 = .ok (.iload_n 2, 1) := by decide +kernel
theorem dX7_firstOf_10 : decode cX7_firstOf 10 = .ok (.aload_n 0, 1) := by decide +kernel
theorem dX7_firstOf_11 : decode cX7_firstOf 11 = .ok (.getfield 7, 3) := by decide +kernel
theorem dX7_firstOf_14 : decode cX7_firstOf 14 = .ok (.bipush 8, 2) := by decide +kernel
theorem dX7_firstOf_16 : decode cX7_firstOf 16 = .ok (.iload_n 3, 1) := by decide +kernel
theorem dX7_firstOf_17 : decode cX7_firstOf 17 = .ok (.iadd, 1) := by decide +kernel
theorem dX7_firstOf_18 : decode cX7_firstOf 18 = .ok (.iaload, 1) := by decide +kernel
theorem dX7_firstOf_19 : decode cX7_firstOf 19 = .ok (.iadd, 1) := by decide +kernel
theorem dX7_firstOf_20 : decode cX7_firstOf 20 = .ok (.istore_n 2, 1) := by decide +kernel
theorem dX7_firstOf_21 : decode cX7_firstOf 21 = .ok (.iinc 3 1, 3) := by decide +kernel
theorem dX7_firstOf_24 : decode cX7_firstOf 24 = .ok (.goto (-20), 3) := by decide +kernel
theorem dX7_firstOf_27 : decode cX7_firstOf 27 = .ok (.iload_n 2, 1) := by decide +kernel
theorem dX7_firstOf_28 : decode cX7_firstOf 28 = .ok (.ireturn, 1) := by decide +kernel
theorem eX7_firstOf {W : zWd} {r : Int} {Q : Option Value → zWd → Prop} {X : zX} (h0 : 0 ≤ r) (h1 : r ≤ 10) (hq : Q (some (zI (aF (W 117) r.toNat))) W) : Ev MX7_firstOf 0 0 W [.ref 116, zI r] Q X := by
  refine ev_of (ls := [.ref 116, zI r, .null, .null]) (by decide) rfl (fun _ => rfl) (fun _ => Nat.le_of_ble_eq_true rfl) (Or.inl rfl) ?_
  have loop : ∀ (n : Nat) (k : Nat), (k : Int) ≤ r → r.toNat - k < n → RR MX7_firstOf 0 0 W 4 [.ref 116, zI r, zI (aF (W 117) k), zI (k : Int)] [] (zEnd MX7_firstOf Q X) X := by
    intro n
    induction n with
    | zero => intro k _ hm9; omega
    | succ n ih =>
      intro k hk hm9
      refine rr_iload_n (pc := 4) dX7_firstOf_4 rfl ?_
      refine rr_iload_n (pc := 5) dX7_firstOf_5 rfl ?_
      refine rr_icmp_ge (pc := 6) (tgt := 27) dX7_firstOf_6 (by decide) (by unfold zR; omega) (by unfold zR; omega) (fun h6 => ?_) (fun h6 => ?_)
      · refine rr_iload_n (pc := 27) dX7_firstOf_27 rfl ?_
        exact rr_reti (pc := 28) dX7_firstOf_28 rfl rfl (by rw [show r.toNat = k by omega]) rfl (hq)
      · refine rr_iload_n (pc := 9) dX7_firstOf_9 rfl ?_
        refine rr_aload_n (pc := 10) dX7_firstOf_10 rfl ?_
        refine rr_getR (pc := 11) dX7_firstOf_11 fX7_7 zk_116 zr_116_0 ?_
        refine rr_bipush (n := (8)) dX7_firstOf_14 ?_
        refine rr_iload_n (pc := 16) dX7_firstOf_16 rfl ?_
        refine rr_iadd (pc := 17) dX7_firstOf_17 ?_
        refine rr_iald (pc := 18) dX7_firstOf_18 zk_117 (by omega) (by omega) ?_
        refine rr_iadd (pc := 19) dX7_firstOf_19 ?_
        refine rr_istore_n (pc := 20) dX7_firstOf_20 (by decide) ?_
        refine rr_iinc (pc := 21) dX7_firstOf_21 rfl (by decide) ?_
        refine rr_goto (pc := 24) (tgt := 4) dX7_firstOf_24 (by decide) ?_
        exact ih (k + 1) (by omega) (by omega)
  refine rr_iconst (n := 1) dX7_firstOf_0 ?_
  refine rr_istore_n (pc := 1) dX7_firstOf_1 (by decide) ?_
  refine rr_iconst (n := 0) dX7_firstOf_2 ?_
  refine rr_istore_n (pc := 3) dX7_firstOf_3 (by decide) ?_
  exact loop _ 0 (by omega) (Nat.lt_succ_self _)
theorem dX7_rowOf_0 : decode cX7_rowOf 0 = .ok (.iconst 0, 1) := by decide +kernel
theorem dX7_rowOf_1 : decode cX7_rowOf 1 = .ok (.istore_n 2, 1) := by decide +kernel
theorem dX7_rowOf_2 : decode cX7_rowOf 2 = .ok (.aload_n 0, 1) := by decide +kernel
theorem dX7_rowOf_3 : decode cX7_rowOf 3 = .ok (.iload_n 2, 1) := by decide +kernel
theorem dX7_rowOf_4 : decode cX7_rowOf 4 = .ok (.invokevirtual 212, 3) := by decide +kernel
theorem dX7_rowOf_7 : decode cX7_rowOf 7 = .ok (.aload_n 0, 1) := by decide +kernel
theorem dX7_rowOf_8 : decode cX7_rowOf 8 = .ok (.getfield 7, 3) := by decide +kernel
theorem dX7_rowOf_11 : decode cX7_rowOf 11 = .ok (.bipush 8, 2) := by decide +kernel
theorem dX7_rowOf_13 : decode cX7_rowOf 13 = .ok (.iload_n 2, 1) := by decide +kernel
theorem dX7_rowOf_14 : decode cX7_rowOf 14 = .ok (.iadd, 1) := by decide +kernel
theorem dX7_rowOf_15 : decode cX7_rowOf 15 = .ok (.iaload, 1) := by decide +kernel
theorem dX7_rowOf_16 : decode cX7_rowOf 16 = .ok (.iadd, 1) := by decide +kernel
theorem dX7_rowOf_17 : decode cX7_rowOf 17 = .ok (.iload_n 1, 1) := by decide +kernel
theorem dX7_rowOf_18 : decode cX7_rowOf 18 = .ok (.if_icmp .gt 9, 3) := by decide +kernel
theorem dX7_rowOf_21 : decode cX7_rowOf 21 = .ok (.iinc 2 1, 3) := by decide +kernel
theorem dX7_rowOf_24 : decode cX7_rowOf 24 = .ok (.goto (-22), 3) := by decide +kernel
theorem dX7_rowOf_27 : decode cX7_rowOf 27 = .ok (.iload_n 2, 1) := by decide +kernel
theorem dX7_rowOf_28 : decode cX7_rowOf 28 = .ok (.ireturn, 1) := by decide +kernel
theorem eX7_rowOf {W : zWd} {a : Int → Int} {T : Int} {s : Int} {Q : Option Value → zWd → Prop} {X : zX} (ha : W 117 = a) (hw : zWf T a) (h0 : 1 ≤ s) (h1 : s ≤ a 1) (hq : Q (some (zI (aR a s : Nat))) W) : Ev MX7_rowOf 1 0 W [.ref 116, zI s] Q X := by
  refine ev_of (ls := [.ref 116, zI s, .null]) (by decide) rfl (fun _ => rfl) (fun _ => Nat.le_of_ble_eq_true rfl) (Or.inl rfl) ?_
  subst ha
  obtain ⟨w0, w0', wW, w1, w2, w2', w3, w3', w4, w4', w5, w5', w6, w6', w7, w7', wS, wP, wT⟩ := id hw
  have wq := zWf.sq hw
  have hsp := aR_spec hw h0 h1
  have loop : ∀ (n : Nat) (k : Nat), k ≤ aR (W 117) s → aR (W 117) s - k < n → RR MX7_rowOf 1 0 W 2 [.ref 116, zI s, zI (k : Int)] [] (zEnd MX7_rowOf Q X) X := by
    intro n
    induction n with
    | zero => intro k _ hm9; omega
    | succ n ih =>
      intro k hk hm9
      refine rr_aload_n (pc := 2) dX7_rowOf_2 rfl ?_
      refine rr_iload_n (pc := 3) dX7_rowOf_3 rfl ?_
      have hf := aF_lo hw (r := k) (by omega)
      have hst := aF_step (a := W 117) k
      have hfe := aF_le hw (r := k + 1) (by omega)
      have hfl := aF_lo hw (r := k + 1) (by omega)
      refine rr_inv0 (M' := MX7_firstOf) (k := 116) (As := [_]) (pc := 4) dX7_rowOf_4 lX7_212 kX7_firstOf vX7_firstOf zk_116 (by decide) rfl (by decide) (by decide) (Nat.le_of_ble_eq_true rfl) rfl (eX7_firstOf (by omega) (by omega) ?_)
      rw [Int.toNat_natCast]
      refine rr_aload_n (pc := 7) dX7_rowOf_7 rfl ?_
      refine rr_getR (pc := 8) dX7_rowOf_8 fX7_7 zk_116 zr_116_0 ?_
      refine rr_bipush (n := (8)) dX7_rowOf_11 ?_
      refine rr_iload_n (pc := 13) dX7_rowOf_13 rfl ?_
      refine rr_iadd (pc := 14) dX7_rowOf_14 ?_
      refine rr_iald (pc := 15) dX7_rowOf_15 zk_117 (by omega) (by omega) ?_
      refine rr_iadd (pc := 16) dX7_rowOf_16 ?_
      refine rr_iload_n (pc := 17) dX7_rowOf_17 rfl ?_
      refine rr_icmp_gt (pc := 18) (tgt := 27) dX7_rowOf_18 (by decide) (by unfold zR; omega) (by unfold zR; omega) (fun h18 => ?_) (fun h18 => ?_)
      · refine rr_iload_n (pc := 27) dX7_rowOf_27 rfl ?_
        have hke : k = aR (W 117) s := by
          rcases Nat.lt_or_eq_of_le hk with z | z
          · have h5 := (aF_mono hw (aR (W 117) s - (k + 1)) (k + 1) (by omega)).1
            rw [show k + 1 + (aR (W 117) s - (k + 1)) = aR (W 117) s by omega] at h5
            omega
          · exact z
        exact rr_reti (pc := 28) dX7_rowOf_28 rfl rfl (by rw [hke]) rfl (hq)
      · refine rr_iinc (pc := 21) dX7_rowOf_21 rfl (by decide) ?_
        refine rr_goto (pc := 24) (tgt := 2) dX7_rowOf_24 (by decide) ?_
        have hne : k ≠ aR (W 117) s := fun z => by subst z; omega
        exact ih (k + 1) (by omega) (by omega)
  refine rr_iconst (n := 0) dX7_rowOf_0 ?_
  refine rr_istore_n (pc := 1) dX7_rowOf_1 (by decide) ?_
  exact loop _ 0 (Nat.zero_le _) (Nat.lt_succ_self _)
theorem dX7_isForbidden_0 : decode cX7_isForbidden 0 = .ok (.aload_n 0, 1) := by decide +kernel
theorem dX7_isForbidden_1 : decode cX7_isForbidden 1 = .ok (.iload_n 2, 1) := by decide +kernel
theorem dX7_isForbidden_2 : decode cX7_isForbidden 2 = .ok (.invokevirtual 187, 3) := by decide +kernel
theorem dX7_isForbidden_5 : decode cX7_isForbidden 5 = .ok (.iconst (-1), 1) := by decide +kernel
theorem dX7_isForbidden_6 : decode cX7_isForbidden 6 = .ok (.if_icmp .eq 16, 3) := by decide +kernel
theorem dX7_isForbidden_9 : decode cX7_isForbidden 9 = .ok (.aload_n 0, 1) := by decide +kernel
theorem dX7_isForbidden_10 : decode cX7_isForbidden 10 = .ok (.iload_n 2, 1) := by decide +kernel
theorem dX7_isForbidden_11 : decode cX7_isForbidden 11 = .ok (.invokevirtual 187, 3) := by decide +kernel
theorem dX7_isForbidden_14 : decode cX7_isForbidden 14 = .ok (.iload_n 1, 1) := by decide +kernel
theorem dX7_isForbidden_15 : decode cX7_isForbidden 15 = .ok (.if_icmp .eq 7, 3) := by decide +kernel
theorem dX7_isForbidden_18 : decode cX7_isForbidden 18 = .ok (.iconst 1, 1) := by decide +kernel
theorem dX7_isForbidden_19 : decode cX7_isForbidden 19 = .ok (.goto 4, 3) := by decide +kernel
theorem dX7_isForbidden_22 : decode cX7_isForbidden 22 = .ok (.iconst 0, 1) := by decide +kernel
theorem dX7_isForbidden_23 : decode cX7_isForbidden 23 = .ok (.ireturn, 1) := by decide +kernel
theorem eX7_isForbidden {W : zWd} {a : Int → Int} {T : Int} {p s : Int} {Q : Option Value → zWd → Prop} {X : zX} (ha : W 117 = a) (hw : zWf T a) (h0 : 1 ≤ s) (h1 : s ≤ a 1) (hz : zR p) (hq : Q (some (zI (if aForb a p s then 1 else 0))) W) : Ev MX7_isForbidden 1 0 W [.ref 116, zI p, zI s] Q X := by
  refine ev_of (ls := [.ref 116, zI p, zI s]) (by decide) rfl (fun _ => rfl) (fun _ => Nat.le_of_ble_eq_true rfl) (Or.inl rfl) ?_
  subst ha
  obtain ⟨w0, w0', wW, w1, w2, w2', w3, w3', w4, w4', w5, w5', w6, w6', w7, w7', wS, wP, wT⟩ := id hw
  have wq := zWf.sq hw
  have hs4 := wS s h0 h1
  refine rr_aload_n (pc := 0) dX7_isForbidden_0 rfl ?_
  refine rr_iload_n (pc := 1) dX7_isForbidden_1 rfl ?_
  refine rr_inv0 (M' := MX7_ownerOf) (k := 116) (As := [_]) (pc := 2) dX7_isForbidden_2 lX7_187 kX7_ownerOf vX7_ownerOf zk_116 (by decide) rfl (by decide) (by decide) (Nat.le_of_ble_eq_true rfl) rfl (eX7_ownerOf h0 (by omega) ?_)
  refine rr_iconst (n := (-1)) dX7_isForbidden_5 ?_
  refine rr_icmp_eq (pc := 6) (tgt := 22) dX7_isForbidden_6 (by decide) (by unfold zR; omega) (by unfold zR; omega) (fun h6 => ?_) (fun h6 => ?_)
  · refine rr_iconst (n := 0) dX7_isForbidden_22 ?_
    exact rr_reti (pc := 23) dX7_isForbidden_23 rfl rfl (if_neg (fun z => z.1 h6)).symm rfl (hq)
  · refine rr_aload_n (pc := 9) dX7_isForbidden_9 rfl ?_
    refine rr_iload_n (pc := 10) dX7_isForbidden_10 rfl ?_
    refine rr_inv0 (M' := MX7_ownerOf) (k := 116) (As := [_]) (pc := 11) dX7_isForbidden_11 lX7_187 kX7_ownerOf vX7_ownerOf zk_116 (by decide) rfl (by decide) (by decide) (Nat.le_of_ble_eq_true rfl) rfl (eX7_ownerOf h0 (by omega) ?_)
    refine rr_iload_n (pc := 14) dX7_isForbidden_14 rfl ?_
    refine rr_icmp_eq (pc := 15) (tgt := 22) dX7_isForbidden_15 (by decide) (by unfold zR; omega) hz (fun h15 => ?_) (fun h15 => ?_)
    · refine rr_iconst (n := 0) dX7_isForbidden_22 ?_
      exact rr_reti (pc := 23) dX7_isForbidden_23 rfl rfl (if_neg (fun z => z.2 h15)).symm rfl (hq)
    · refine rr_iconst (n := 1) dX7_isForbidden_18 ?_
      refine rr_goto (pc := 19) (tgt := 23) dX7_isForbidden_19 (by decide) ?_
      exact rr_reti (pc := 23) dX7_isForbidden_23 rfl rfl (if_pos ⟨h6, h15⟩).symm rfl (hq)
theorem aOpen_y {a : Int → Int} {p s : Int} (h : s ≤ a 1) (hf : aForb a p s) : aOpen a p s = aOpen a p (s + 1) := by
  unfold aOpen; rw [show (a 1 + 1 - s).toNat = (a 1 + 1 - (s + 1)).toNat + 1 by omega]; exact if_pos hf
theorem aOpen_n {a : Int → Int} {p s : Int} (h : s ≤ a 1) (hf : ¬ aForb a p s) : aOpen a p s = s := by
  unfold aOpen; rw [show (a 1 + 1 - s).toNat = (a 1 + 1 - (s + 1)).toNat + 1 by omega]; exact if_neg hf
theorem aOpen_e {a : Int → Int} {p s : Int} (h : a 1 < s) : aOpen a p s = 0 := by
  unfold aOpen; rw [show (a 1 + 1 - s).toNat = 0 by omega]; rfl
theorem dX7_openFrom_0 : decode cX7_openFrom 0 = .ok (.iload_n 2, 1) := by decide +kernel
theorem dX7_openFrom_1 : decode cX7_openFrom 1 = .ok (.istore_n 3, 1) := by decide +kernel
theorem dX7_openFrom_2 : decode cX7_openFrom 2 = .ok (.iload_n 3, 1) := by decide +kernel
theorem dX7_openFrom_3 : decode cX7_openFrom 3 = .ok (.aload_n 0, 1) := by decide +kernel
theorem dX7_openFrom_4 : decode cX7_openFrom 4 = .ok (.invokevirtual 209, 3) := by decide +kernel
theorem dX7_openFrom_7 : decode cX7_openFrom 7 = .ok (.if_icmp .gt 20, 3) := by decide +kernel
theorem dX7_openFrom_10 : decode cX7_openFrom 10 = .ok (.aload_n 0, 1) := by decide +kernel
theorem dX7_openFrom_11 : decode cX7_openFrom 11 = .ok (.iload_n 1, 1) := by decide +kernel
theorem dX7_openFrom_12 : decode cX7_openFrom 12 = .ok (.iload_n 3, 1) := by decide +kernel
theorem dX7_openFrom_13 : decode cX7_openFrom 13 = .ok (.invokevirtual 215, 3) := by decide +kernel
theorem dX7_openFrom_16 : decode cX7_openFrom 16 = .ok (.ifCond .ne 5, 3) := by decide +kernel
theorem dX7_openFrom_19 : decode cX7_openFrom 19 = .ok (.iload_n 3, 1) := by decide +kernel
theorem dX7_openFrom_20 : decode cX7_openFrom 20 = .ok (.ireturn, 1) := by decide +kernel
theorem dX7_openFrom_21 : decode cX7_openFrom 21 = .ok (.iinc 3 1, 3) := by decide +kernel
theorem dX7_openFrom_24 : decode cX7_openFrom 24 = .ok (.goto (-22), 3) := by decide +kernel
theorem dX7_openFrom_27 : decode cX7_openFrom 27 = .ok (.iconst 0, 1) := by decide +kernel
theorem dX7_openFrom_28 : decode cX7_openFrom 28 = .ok (.ireturn, 1) := by decide +kernel
theorem eX7_openFrom {W : zWd} {a : Int → Int} {T : Int} {p s : Int} {Q : Option Value → zWd → Prop} {X : zX} (ha : W 117 = a) (hw : zWf T a) (h0 : 1 ≤ s) (h1 : s ≤ a 1 + 1) (hz : zR p) (hq : Q (some (zI (aOpen a p s))) W) : Ev MX7_openFrom 2 0 W [.ref 116, zI p, zI s] Q X := by
  refine ev_of (ls := [.ref 116, zI p, zI s, .null]) (by decide) rfl (fun _ => rfl) (fun _ => Nat.le_of_ble_eq_true rfl) (Or.inl rfl) ?_
  subst ha
  obtain ⟨w0, w0', wW, w1, w2, w2', w3, w3', w4, w4', w5, w5', w6, w6', w7, w7', wS, wP, wT⟩ := id hw
  have wq := zWf.sq hw
  have loop : ∀ (n : Nat) (i : Int), s ≤ i → i ≤ W 117 1 + 1 → aOpen (W 117) p s = aOpen (W 117) p i → (W 117 1 + 1 - i).toNat < n → RR MX7_openFrom 2 0 W 2 [.ref 116, zI p, zI s, zI i] [] (zEnd MX7_openFrom Q X) X := by
    intro n
    induction n with
    | zero => intro i _ _ _ hm9; omega
    | succ n ih =>
      intro i g1 g2 hL hm9
      refine rr_iload_n (pc := 2) dX7_openFrom_2 rfl ?_
      refine rr_aload_n (pc := 3) dX7_openFrom_3 rfl ?_
      refine rr_inv0 (M' := MX7_squares) (k := 116) (As := []) (pc := 4) dX7_openFrom_4 lX7_209 kX7_squares vX7_squares zk_116 (by decide) rfl (by decide) (by decide) (Nat.le_of_ble_eq_true rfl) rfl (eX7_squares ?_)
      refine rr_icmp_gt (pc := 7) (tgt := 27) dX7_openFrom_7 (by decide) (by unfold zR; omega) (by unfold zR; omega) (fun h7 => ?_) (fun h7 => ?_)
      · refine rr_iconst (n := 0) dX7_openFrom_27 ?_
        exact rr_reti (pc := 28) dX7_openFrom_28 rfl rfl (hL.trans (aOpen_e (by omega))).symm rfl (hq)
      · refine rr_aload_n (pc := 10) dX7_openFrom_10 rfl ?_
        refine rr_iload_n (pc := 11) dX7_openFrom_11 rfl ?_
        refine rr_iload_n (pc := 12) dX7_openFrom_12 rfl ?_
        refine rr_inv0 (M' := MX7_isForbidden) (k := 116) (As := [_, _]) (pc := 13) dX7_openFrom_13 lX7_215 kX7_isForbidden vX7_isForbidden zk_116 (by decide) rfl (by decide) (by decide) (Nat.le_of_ble_eq_true rfl) rfl (eX7_isForbidden rfl hw (by omega) (by omega) hz ?_)
        refine rr_if_ne (pc := 16) (tgt := 21) dX7_openFrom_16 (by decide) (by split <;> (unfold zR; omega)) (fun h16 => ?_) (fun h16 => ?_)
        · refine rr_iinc (pc := 21) dX7_openFrom_21 rfl (by decide) ?_
          refine rr_goto (pc := 24) (tgt := 2) dX7_openFrom_24 (by decide) ?_
          exact ih (i + 1) (by omega) (by omega) (hL.trans (aOpen_y (by omega) (z_i10n h16))) (by omega)
        · refine rr_iload_n (pc := 19) dX7_openFrom_19 rfl ?_
          exact rr_reti (pc := 20) dX7_openFrom_20 rfl rfl (hL.trans (aOpen_n (by omega) (z_i10 (by omega)))).symm rfl (hq)
  refine rr_iload_n (pc := 0) dX7_openFrom_0 rfl ?_
  refine rr_istore_n (pc := 1) dX7_openFrom_1 (by decide) ?_
  exact loop _ s (by omega) (by omega) rfl (Nat.lt_succ_self _)
def aRnd (a : Int → Int) (p s : Int) : Int := if 0 < aOpen a p s then aOpen a p s else aOpen a p 1
theorem dX7_openRound_0 : decode cX7_openRound 0 = .ok (.aload_n 0, 1) := by decide +kernel
theorem dX7_openRound_1 : decode cX7_openRound 1 = .ok (.iload_n 1, 1) := by decide +kernel
theorem dX7_openRound_2 : decode cX7_openRound 2 = .ok (.iload_n 2, 1) := by decide +kernel
theorem dX7_openRound_3 : decode cX7_openRound 3 = .ok (.invokevirtual 219, 3) := by decide +kernel
theorem dX7_openRound_6 : decode cX7_openRound 6 = .ok (.istore_n 3, 1) := by decide +kernel
theorem dX7_openRound_7 : decode cX7_openRound 7 = .ok (.iload_n 3, 1) := by decide +kernel
theorem dX7_openRound_8 : decode cX7_openRound 8 = .ok (.ifCond .le 7, 3) := by decide +kernel
theorem dX7_openRound_11 : decode cX7_openRound 11 = .ok (.iload_n 3, 1) := by decide +kernel
theorem dX7_openRound_12 : decode cX7_openRound 12 = .ok (.goto 9, 3) := by decide +kernel
theorem dX7_openRound_15 : decode cX7_openRound 15 = .ok (.aload_n 0, 1) := by decide +kernel
theorem dX7_openRound_16 : decode cX7_openRound 16 = .ok (.iload_n 1, 1) := by decide +kernel
theorem dX7_openRound_17 : decode cX7_openRound 17 = .ok (.iconst 1, 1) := by decide +kernel
theorem dX7_openRound_18 : decode cX7_openRound 18 = .ok (.invokevirtual 219, 3) := by decide +kernel
theorem dX7_openRound_21 : decode cX7_openRound 21 = .ok (.ireturn, 1) := by decide +kernel
theorem eX7_openRound {W : zWd} {a : Int → Int} {T : Int} {p s : Int} {Q : Option Value → zWd → Prop} {X : zX} (ha : W 117 = a) (hw : zWf T a) (h0 : 1 ≤ s) (h1 : s ≤ a 1 + 1) (hz : zR p) (hq : Q (some (zI (aRnd a p s))) W) : Ev MX7_openRound 3 0 W [.ref 116, zI p, zI s] Q X := by
  refine ev_of (ls := [.ref 116, zI p, zI s, .null]) (by decide) rfl (fun _ => rfl) (fun _ => Nat.le_of_ble_eq_true rfl) (Or.inl rfl) ?_
  subst ha
  obtain ⟨w0, w0', wW, w1, w2, w2', w3, w3', w4, w4', w5, w5', w6, w6', w7, w7', wS, wP, wT⟩ := id hw
  have wq := zWf.sq hw
  refine rr_aload_n (pc := 0) dX7_openRound_0 rfl ?_
  refine rr_iload_n (pc := 1) dX7_openRound_1 rfl ?_
  refine rr_iload_n (pc := 2) dX7_openRound_2 rfl ?_
  refine rr_inv0 (M' := MX7_openFrom) (k := 116) (As := [_, _]) (pc := 3) dX7_openRound_3 lX7_219 kX7_openFrom vX7_openFrom zk_116 (by decide) rfl (by decide) (by decide) (Nat.le_of_ble_eq_true rfl) rfl (eX7_openFrom rfl hw h0 h1 hz ?_)
  have ho := aOpen_rng (a := W 117) (p := p) (s := s) h0 (by omega)
  refine rr_istore_n (pc := 6) dX7_openRound_6 (by decide) ?_
  refine rr_iload_n (pc := 7) dX7_openRound_7 rfl ?_
  refine rr_if_le (pc := 8) (tgt := 15) dX7_openRound_8 (by decide) (by unfold zR; omega) (fun h8 => ?_) (fun h8 => ?_)
  · refine rr_aload_n (pc := 15) dX7_openRound_15 rfl ?_
    refine rr_iload_n (pc := 16) dX7_openRound_16 rfl ?_
    refine rr_iconst (n := 1) dX7_openRound_17 ?_
    refine rr_inv0 (M' := MX7_openFrom) (k := 116) (As := [_, _]) (pc := 18) dX7_openRound_18 lX7_219 kX7_openFrom vX7_openFrom zk_116 (by decide) rfl (by decide) (by decide) (Nat.le_of_ble_eq_true rfl) rfl (eX7_openFrom rfl hw (by omega) (by omega) hz ?_)
    exact rr_reti (pc := 21) dX7_openRound_21 rfl rfl (if_neg (by omega)).symm rfl (hq)
  · refine rr_iload_n (pc := 11) dX7_openRound_11 rfl ?_
    refine rr_goto (pc := 12) (tgt := 21) dX7_openRound_12 (by decide) ?_
    exact rr_reti (pc := 21) dX7_openRound_21 rfl rfl (if_pos (by omega)).symm rfl (hq)
def aRight (a : Int → Int) (p : Int) : Int → Int := if 0 < aP a p 2 then iup a (58 + 17 * p + 2) (aRnd a p (aP a p 2)) else a
theorem dX7_putsRight_0 : decode cX7_putsRight 0 = .ok (.aload_n 0, 1) := by decide +kernel
theorem dX7_putsRight_1 : decode cX7_putsRight 1 = .ok (.iload_n 1, 1) := by decide +kernel
theorem dX7_putsRight_2 : decode cX7_putsRight 2 = .ok (.iconst 2, 1) := by decide +kernel
theorem dX7_putsRight_3 : decode cX7_putsRight 3 = .ok (.invokevirtual 154, 3) := by decide +kernel
theorem dX7_putsRight_6 : decode cX7_putsRight 6 = .ok (.ifCond .le 20, 3) := by decide +kernel
theorem dX7_putsRight_9 : decode cX7_putsRight 9 = .ok (.aload_n 0, 1) := by decide +kernel
theorem dX7_putsRight_10 : decode cX7_putsRight 10 = .ok (.iload_n 1, 1) := by decide +kernel
theorem dX7_putsRight_11 : decode cX7_putsRight 11 = .ok (.iconst 2, 1) := by decide +kernel
theorem dX7_putsRight_12 : decode cX7_putsRight 12 = .ok (.aload_n 0, 1) := by decide +kernel
theorem dX7_putsRight_13 : decode cX7_putsRight 13 = .ok (.iload_n 1, 1) := by decide +kernel
theorem dX7_putsRight_14 : decode cX7_putsRight 14 = .ok (.aload_n 0, 1) := by decide +kernel
theorem dX7_putsRight_15 : decode cX7_putsRight 15 = .ok (.iload_n 1, 1) := by decide +kernel
theorem dX7_putsRight_16 : decode cX7_putsRight 16 = .ok (.iconst 2, 1) := by decide +kernel
theorem dX7_putsRight_17 : decode cX7_putsRight 17 = .ok (.invokevirtual 154, 3) := by decide +kernel
theorem dX7_putsRight_20 : decode cX7_putsRight 20 = .ok (.invokevirtual 222, 3) := by decide +kernel
theorem dX7_putsRight_23 : decode cX7_putsRight 23 = .ok (.invokevirtual 55, 3) := by decide +kernel
theorem dX7_putsRight_26 : decode cX7_putsRight 26 = .ok (.return_, 1) := by decide +kernel
theorem eX7_putsRight {W : zWd} {a : Int → Int} {T : Int} {p : Int} {Q : Option Value → zWd → Prop} {X : zX} (ha : W 117 = a) (hw : zWf T a) (h0 : 0 ≤ p) (h1 : p < a 2) (hq : ∀ W' : zWd, zOfm W W' → W' 117 = aRight a p → Q none W') : Ev MX7_putsRight 4 0 W [.ref 116, zI p] Q X := by
  refine ev_of (ls := [.ref 116, zI p]) (by decide) rfl (fun _ => rfl) (fun _ => Nat.le_of_ble_eq_true rfl) (Or.inl rfl) ?_
  subst ha
  obtain ⟨w0, w0', wW, w1, w2, w2', w3, w3', w4, w4', w5, w5', w6, w6', w7, w7', wS, wP, wT⟩ := id hw
  have wq := zWf.sq hw
  have hm2 := wP p h0 h1
  unfold zWfP at hm2
  refine rr_aload_n (pc := 0) dX7_putsRight_0 rfl ?_
  refine rr_iload_n (pc := 1) dX7_putsRight_1 rfl ?_
  refine rr_iconst (n := 2) dX7_putsRight_2 ?_
  refine rr_inv0 (M' := MX7_of) (k := 116) (As := [_, _]) (pc := 3) dX7_putsRight_3 lX7_154 kX7_of vX7_of zk_116 (by decide) rfl (by decide) (by decide) (Nat.le_of_ble_eq_true rfl) rfl (eX7_of (by omega) (by omega) (by omega) (by omega) ?_)
  refine rr_if_le (pc := 6) (tgt := 26) dX7_putsRight_6 (by decide) (by unfold zR; omega) (fun h6 => ?_) (fun h6 => ?_)
  · exact rr_retv (pc := 26) dX7_putsRight_26 rfl rfl (hq _ zOfm.rf (by unfold aRight; rw [if_neg (by omega)]))
  · refine rr_aload_n (pc := 9) dX7_putsRight_9 rfl ?_
    refine rr_iload_n (pc := 10) dX7_putsRight_10 rfl ?_
    refine rr_iconst (n := 2) dX7_putsRight_11 ?_
    refine rr_aload_n (pc := 12) dX7_putsRight_12 rfl ?_
    refine rr_iload_n (pc := 13) dX7_putsRight_13 rfl ?_
    refine rr_aload_n (pc := 14) dX7_putsRight_14 rfl ?_
    refine rr_iload_n (pc := 15) dX7_putsRight_15 rfl ?_
    refine rr_iconst (n := 2) dX7_putsRight_16 ?_
    refine rr_inv0 (M' := MX7_of) (k := 116) (As := [_, _]) (pc := 17) dX7_putsRight_17 lX7_154 kX7_of vX7_of zk_116 (by decide) rfl (by decide) (by decide) (Nat.le_of_ble_eq_true rfl) rfl (eX7_of (by omega) (by omega) (by omega) (by omega) ?_)
    refine rr_inv0 (M' := MX7_openRound) (k := 116) (As := [_, _]) (pc := 20) dX7_putsRight_20 lX7_222 kX7_openRound vX7_openRound zk_116 (by decide) rfl (by decide) (by decide) (Nat.le_of_ble_eq_true rfl) rfl (eX7_openRound rfl hw (by omega) (by omega) (by unfold zR; omega) ?_)
    refine rr_inv0 (M' := MX7_sets) (k := 116) (As := [_, _, _]) (pc := 23) dX7_putsRight_23 lX7_55 kX7_sets vX7_sets zk_116 (by decide) rfl (by decide) (by decide) (Nat.le_of_ble_eq_true rfl) rfl (eX7_sets (by omega) (by omega) (by omega) (by omega) ?_)
    exact rr_retv (pc := 26) dX7_putsRight_26 rfl rfl (hq _ zOfm.rf.up (by rw [zup_at]; unfold aRight; rw [if_pos (by omega)]))
