/-! the 25 helpers: each calls, writes the answer away, or says which of its rows caught what was thrown -/
theorem zcast_IO : Cond.castable "java/lang/IndexOutOfBoundsException" "java/lang/IndexOutOfBoundsException" ∈ zNst := zNst_in 862 (by decide +kernel) rfl
theorem zcast_IA : Cond.castable "java/lang/IllegalArgumentException" "java/lang/IllegalArgumentException" ∈ zNst := zNst_in 834 (by decide +kernel) rfl
theorem zcast_IS : Cond.castable "java/lang/IllegalStateException" "java/lang/IllegalStateException" ∈ zNst := zNst_in 743 (by decide +kernel) rfl
theorem zcl_13 : Cond.classLink RL 13 "java/lang/IllegalStateException" ∈ zWs := zWs_in 733 (by decide +kernel) rfl
theorem zcl_19 : Cond.classLink RL 19 "java/lang/IllegalArgumentException" ∈ zWs := zWs_in 815 (by decide +kernel) rfl
theorem zcl_25 : Cond.classLink RL 25 "java/lang/IndexOutOfBoundsException" ∈ zWs := zWs_in 851 (by decide +kernel) rfl
theorem ev_mono {M : zM} {d t : Nat} {W : zWd} {args : List Value} {Q Q' : Option Value → zWd → Prop} {X X' : zX} (h : Ev M d t W args Q X) (hQ : ∀ r W', Q r W' → Q' r W') (hX : ∀ E W', X E W' → X' E W') : Ev M d t W args Q' X' := by
  intro l D Y ad A hst hAd p e h1 h2 h3 s m args below h4 h5 h6 h7
  obtain ⟨n9, o, g1, g2, g3, g4⟩ := h l D Y ad A hst hAd p e h1 h2 h3 s m args below h4 h5 h6 h7
  refine ⟨n9, o, g1, g2, g3, ?_⟩
  rcases g4 with ⟨⟨⟨r, W', e1, e2, e3⟩, hF⟩, hL⟩ | ⟨q, e0, E, ce, L, ⟨⟨W', e1, e2⟩, hF⟩, h9⟩
  · exact Or.inl ⟨⟨⟨r, W', e1, hQ r W' e2, e3⟩, hF⟩, hL⟩
  · exact Or.inr ⟨q, e0, E, ce, L, ⟨⟨W', hX E W' e1, e2⟩, hF⟩, h9⟩
theorem ev_monoH {M : zM} {hh : List (Nat × Nat × Nat × Nat)} {d t : Nat} {W : zWd} {args : List Value} {Q Q' : Option Value → zWd → Prop} (h : EvH M hh d t W args Q) (hQ : ∀ r W', Q r W' → Q' r W') : EvH M hh d t W args Q' := by
  intro l D Y ad A hst hAd p e h1 h2 h3 s m args below h4 h5 h6 h7
  obtain ⟨n9, o, g1, g2, g3, ⟨⟨r, W', e1, e2, e3⟩, hF⟩, hL⟩ := h l D Y ad A hst hAd p e h1 h2 h3 s m args below h4 h5 h6 h7
  exact ⟨n9, o, g1, g2, g3, ⟨⟨r, W', e1, hQ r W' e2, e3⟩, hF⟩, hL⟩
abbrev ML_append : zM := (RL, cL_append, 8, yL_append, (some .int))
abbrev hL_append : List (Nat × Nat × Nat × Nat) := [(0, 16, 19, 13)]
theorem dL_append_0 : decode cL_append 0 = .ok (.aload 6, 2) := by decide +kernel
theorem dL_append_2 : decode cL_append 2 = .ok (.iconst 0, 1) := by decide +kernel
theorem dL_append_3 : decode cL_append 3 = .ok (.aload_n 0, 1) := by decide +kernel
theorem dL_append_4 : decode cL_append 4 = .ok (.iload_n 1, 1) := by decide +kernel
theorem dL_append_5 : decode cL_append 5 = .ok (.iload_n 2, 1) := by decide +kernel
theorem dL_append_6 : decode cL_append 6 = .ok (.iload_n 3, 1) := by decide +kernel
theorem dL_append_7 : decode cL_append 7 = .ok (.iload 4, 2) := by decide +kernel
theorem dL_append_9 : decode cL_append 9 = .ok (.iload 5, 2) := by decide +kernel
theorem dL_append_11 : decode cL_append 11 = .ok (.invokevirtual 7, 3) := by decide +kernel
theorem dL_append_14 : decode cL_append 14 = .ok (.i2l, 1) := by decide +kernel
theorem dL_append_15 : decode cL_append 15 = .ok (.lastore, 1) := by decide +kernel
theorem dL_append_16 : decode cL_append 16 = .ok (.goto 7, 3) := by decide +kernel
theorem dL_append_23 : decode cL_append 23 = .ok (.iconst 0, 1) := by decide +kernel
theorem dL_append_24 : decode cL_append 24 = .ok (.ireturn, 1) := by decide +kernel
theorem dL_append_19 : decode cL_append 19 = .ok (.astore 7, 2) := by decide +kernel
theorem dL_append_21 : decode cL_append 21 = .ok (.iconst 1, 1) := by decide +kernel
theorem dL_append_22 : decode cL_append 22 = .ok (.ireturn, 1) := by decide +kernel
theorem eL_append {W : zWd} {t t' : Nat} {p0 p1 p2 p3 p4 : Int} {Q : Option Value → zWd → Prop} (ht : t' ≤ t) (h : Ev MX6_append 7 t' W [.ref 96, zI p0, zI p1, zI p2, zI p3, zI p4] (fun r W' => ∃ z : Int, r = some (zI z) ∧ Q (some (zI 0)) (zup W' 128 0 z)) (fun E W' => (E = "java/lang/IllegalStateException" ∧ Q (some (zI 1)) W'))) : EvH ML_append hL_append 9 t W [.ref 96, zI p0, zI p1, zI p2, zI p3, zI p4, .ref 128] Q := by
  refine ev_ofH (ls := [.ref 96, zI p0, zI p1, zI p2, zI p3, zI p4, .ref 128, .null]) (by decide) rfl rfl (fun _ => rfl) (fun _ => Nat.le_of_ble_eq_true rfl) ?_
  refine hh_aload (pc := 0) dL_append_0 rfl ?_
  refine hh_iconst (n := 0) dL_append_2 ?_
  refine hh_aload_n (pc := 3) dL_append_3 rfl ?_
  refine hh_iload_n (pc := 4) dL_append_4 rfl ?_
  refine hh_iload_n (pc := 5) dL_append_5 rfl ?_
  refine hh_iload_n (pc := 6) dL_append_6 rfl ?_
  refine hh_iload (pc := 7) dL_append_7 rfl ?_
  refine hh_iload (pc := 9) dL_append_9 rfl ?_
  refine hh_inv (d' := 7) (t' := t') (M' := MX6_append) (k := 96) (As := [_, _, _, _, _]) (pc := 11) dL_append_11 lL_7 kX6_append vX6_append zk_96 (by decide) rfl (by decide) ht (Nat.le_of_ble_eq_true rfl) (Nat.le_of_ble_eq_true rfl) rfl ?_
  refine ev_mono h (fun r W2 hr => ?_) (fun E W2 hE => ?_)
  · obtain ⟨z, rfl, hq⟩ := hr
    refine hh_out (pc := 14) dL_append_14 dL_append_15 ?_
    refine hh_goto (pc := 16) (tgt := 23) dL_append_16 (by decide) ?_
    refine hh_iconst (n := 0) dL_append_23 ?_
    exact hh_reti dL_append_24 hq
  · obtain ⟨rfl, hq⟩ := hE
    exact ⟨[], (0, 16, 19, 13), [], "java/lang/IllegalStateException", 1, 2, rfl, fun _ hy => absurd hy List.not_mem_nil, by decide, by decide, by decide, zcl_13, zcast_IS, Or.inr ⟨7, rfl, dL_append_19, by decide⟩, dL_append_21, dL_append_22, hq⟩
abbrev ML_count : zM := (RL, cL_count, 4, yL_count, (some .int))
abbrev hL_count : List (Nat × Nat × Nat × Nat) := [(0, 9, 12, 19)]
theorem dL_count_0 : decode cL_count 0 = .ok (.aload_n 2, 1) := by decide +kernel
theorem dL_count_1 : decode cL_count 1 = .ok (.iconst 0, 1) := by decide +kernel
theorem dL_count_2 : decode cL_count 2 = .ok (.aload_n 0, 1) := by decide +kernel
theorem dL_count_3 : decode cL_count 3 = .ok (.iload_n 1, 1) := by decide +kernel
theorem dL_count_4 : decode cL_count 4 = .ok (.invokevirtual 15, 3) := by decide +kernel
theorem dL_count_7 : decode cL_count 7 = .ok (.i2l, 1) := by decide +kernel
theorem dL_count_8 : decode cL_count 8 = .ok (.lastore, 1) := by decide +kernel
theorem dL_count_9 : decode cL_count 9 = .ok (.goto 6, 3) := by decide +kernel
theorem dL_count_15 : decode cL_count 15 = .ok (.iconst 0, 1) := by decide +kernel
theorem dL_count_16 : decode cL_count 16 = .ok (.ireturn, 1) := by decide +kernel
theorem dL_count_12 : decode cL_count 12 = .ok (.astore_n 3, 1) := by decide +kernel
theorem dL_count_13 : decode cL_count 13 = .ok (.iconst 1, 1) := by decide +kernel
theorem dL_count_14 : decode cL_count 14 = .ok (.ireturn, 1) := by decide +kernel
theorem eL_count {W : zWd} {t t' : Nat} {p0 : Int} {Q : Option Value → zWd → Prop} (ht : t' ≤ t) (h : Ev MX6_count 7 t' W [.ref 96, zI p0] (fun r W' => ∃ z : Int, r = some (zI z) ∧ Q (some (zI 0)) (zup W' 128 0 z)) (fun E W' => (E = "java/lang/IllegalArgumentException" ∧ Q (some (zI 1)) W'))) : EvH ML_count hL_count 9 t W [.ref 96, zI p0, .ref 128] Q := by
  refine ev_ofH (ls := [.ref 96, zI p0, .ref 128, .null]) (by decide) rfl rfl (fun _ => rfl) (fun _ => Nat.le_of_ble_eq_true rfl) ?_
  refine hh_aload_n (pc := 0) dL_count_0 rfl ?_
  refine hh_iconst (n := 0) dL_count_1 ?_
  refine hh_aload_n (pc := 2) dL_count_2 rfl ?_
  refine hh_iload_n (pc := 3) dL_count_3 rfl ?_
  refine hh_inv (d' := 7) (t' := t') (M' := MX6_count) (k := 96) (As := [_]) (pc := 4) dL_count_4 lL_15 kX6_count vX6_count zk_96 (by decide) rfl (by decide) ht (Nat.le_of_ble_eq_true rfl) (Nat.le_of_ble_eq_true rfl) rfl ?_
  refine ev_mono h (fun r W2 hr => ?_) (fun E W2 hE => ?_)
  · obtain ⟨z, rfl, hq⟩ := hr
    refine hh_out (pc := 7) dL_count_7 dL_count_8 ?_
    refine hh_goto (pc := 9) (tgt := 15) dL_count_9 (by decide) ?_
    refine hh_iconst (n := 0) dL_count_15 ?_
    exact hh_reti dL_count_16 hq
  · obtain ⟨rfl, hq⟩ := hE
    exact ⟨[], (0, 9, 12, 19), [], "java/lang/IllegalArgumentException", 1, 1, rfl, fun _ hy => absurd hy List.not_mem_nil, by decide, by decide, by decide, zcl_19, zcast_IA, Or.inl ⟨3, rfl, dL_count_12, by decide⟩, dL_count_13, dL_count_14, hq⟩
abbrev ML_player : zM := (RL, cL_player, 5, yL_player, (some .int))
abbrev hL_player : List (Nat × Nat × Nat × Nat) := [(0, 10, 13, 25), (0, 10, 17, 19)]
theorem dL_player_0 : decode cL_player 0 = .ok (.aload_n 3, 1) := by decide +kernel
theorem dL_player_1 : decode cL_player 1 = .ok (.iconst 0, 1) := by decide +kernel
theorem dL_player_2 : decode cL_player 2 = .ok (.aload_n 0, 1) := by decide +kernel
theorem dL_player_3 : decode cL_player 3 = .ok (.iload_n 1, 1) := by decide +kernel
theorem dL_player_4 : decode cL_player 4 = .ok (.iload_n 2, 1) := by decide +kernel
theorem dL_player_5 : decode cL_player 5 = .ok (.invokevirtual 21, 3) := by decide +kernel
theorem dL_player_8 : decode cL_player 8 = .ok (.i2l, 1) := by decide +kernel
theorem dL_player_9 : decode cL_player 9 = .ok (.lastore, 1) := by decide +kernel
theorem dL_player_10 : decode cL_player 10 = .ok (.goto 11, 3) := by decide +kernel
theorem dL_player_21 : decode cL_player 21 = .ok (.iconst 0, 1) := by decide +kernel
theorem dL_player_22 : decode cL_player 22 = .ok (.ireturn, 1) := by decide +kernel
theorem dL_player_13 : decode cL_player 13 = .ok (.astore 4, 2) := by decide +kernel
theorem dL_player_15 : decode cL_player 15 = .ok (.iconst 1, 1) := by decide +kernel
theorem dL_player_16 : decode cL_player 16 = .ok (.ireturn, 1) := by decide +kernel
theorem dL_player_17 : decode cL_player 17 = .ok (.astore 4, 2) := by decide +kernel
theorem dL_player_19 : decode cL_player 19 = .ok (.iconst 2, 1) := by decide +kernel
theorem dL_player_20 : decode cL_player 20 = .ok (.ireturn, 1) := by decide +kernel
theorem eL_player {W : zWd} {t t' : Nat} {p0 p1 : Int} {Q : Option Value → zWd → Prop} (ht : t' ≤ t) (h : Ev MX6_player 8 t' W [.ref 96, zI p0, zI p1] (fun r W' => ∃ z : Int, r = some (zI z) ∧ Q (some (zI 0)) (zup W' 128 0 z)) (fun E W' => (E = "java/lang/IndexOutOfBoundsException" ∧ Q (some (zI 1)) W') ∨ (E = "java/lang/IllegalArgumentException" ∧ Q (some (zI 2)) W'))) : EvH ML_player hL_player 9 t W [.ref 96, zI p0, zI p1, .ref 128] Q := by
  refine ev_ofH (ls := [.ref 96, zI p0, zI p1, .ref 128, .null]) (by decide) rfl rfl (fun _ => rfl) (fun _ => Nat.le_of_ble_eq_true rfl) ?_
  refine hh_aload_n (pc := 0) dL_player_0 rfl ?_
  refine hh_iconst (n := 0) dL_player_1 ?_
  refine hh_aload_n (pc := 2) dL_player_2 rfl ?_
  refine hh_iload_n (pc := 3) dL_player_3 rfl ?_
  refine hh_iload_n (pc := 4) dL_player_4 rfl ?_
  refine hh_inv (d' := 8) (t' := t') (M' := MX6_player) (k := 96) (As := [_, _]) (pc := 5) dL_player_5 lL_21 kX6_player vX6_player zk_96 (by decide) rfl (by decide) ht (Nat.le_of_ble_eq_true rfl) (Nat.le_of_ble_eq_true rfl) rfl ?_
  refine ev_mono h (fun r W2 hr => ?_) (fun E W2 hE => ?_)
  · obtain ⟨z, rfl, hq⟩ := hr
    refine hh_out (pc := 8) dL_player_8 dL_player_9 ?_
    refine hh_goto (pc := 10) (tgt := 21) dL_player_10 (by decide) ?_
    refine hh_iconst (n := 0) dL_player_21 ?_
    exact hh_reti dL_player_22 hq
  · rcases hE with ⟨rfl, hq⟩ | ⟨rfl, hq⟩
    · exact ⟨[], (0, 10, 13, 25), [(0, 10, 17, 19)], "java/lang/IndexOutOfBoundsException", 1, 2, rfl, fun _ hy => absurd hy List.not_mem_nil, by decide, by decide, by decide, zcl_25, zcast_IO, Or.inr ⟨4, rfl, dL_player_13, by decide⟩, dL_player_15, dL_player_16, hq⟩
    · exact ⟨[(0, 10, 13, 25)], (0, 10, 17, 19), [], "java/lang/IllegalArgumentException", 2, 2, rfl, fun y hy => by
        rcases List.mem_singleton.mp hy with rfl
        exact ⟨by decide, zcl_25, Or.inl rfl⟩, by decide, by decide, by decide, zcl_19, zcast_IA, Or.inr ⟨4, rfl, dL_player_17, by decide⟩, dL_player_19, dL_player_20, hq⟩
abbrev ML_square : zM := (RL, cL_square, 5, yL_square, (some .int))
abbrev hL_square : List (Nat × Nat × Nat × Nat) := [(0, 10, 13, 25), (0, 10, 17, 19)]
theorem dL_square_0 : decode cL_square 0 = .ok (.aload_n 3, 1) := by decide +kernel
theorem dL_square_1 : decode cL_square 1 = .ok (.iconst 0, 1) := by decide +kernel
theorem dL_square_2 : decode cL_square 2 = .ok (.aload_n 0, 1) := by decide +kernel
theorem dL_square_3 : decode cL_square 3 = .ok (.iload_n 1, 1) := by decide +kernel
theorem dL_square_4 : decode cL_square 4 = .ok (.iload_n 2, 1) := by decide +kernel
theorem dL_square_5 : decode cL_square 5 = .ok (.invokevirtual 27, 3) := by decide +kernel
theorem dL_square_8 : decode cL_square 8 = .ok (.i2l, 1) := by decide +kernel
theorem dL_square_9 : decode cL_square 9 = .ok (.lastore, 1) := by decide +kernel
theorem dL_square_10 : decode cL_square 10 = .ok (.goto 11, 3) := by decide +kernel
theorem dL_square_21 : decode cL_square 21 = .ok (.iconst 0, 1) := by decide +kernel
theorem dL_square_22 : decode cL_square 22 = .ok (.ireturn, 1) := by decide +kernel
theorem dL_square_13 : decode cL_square 13 = .ok (.astore 4, 2) := by decide +kernel
theorem dL_square_15 : decode cL_square 15 = .ok (.iconst 1, 1) := by decide +kernel
theorem dL_square_16 : decode cL_square 16 = .ok (.ireturn, 1) := by decide +kernel
theorem dL_square_17 : decode cL_square 17 = .ok (.astore 4, 2) := by decide +kernel
theorem dL_square_19 : decode cL_square 19 = .ok (.iconst 2, 1) := by decide +kernel
theorem dL_square_20 : decode cL_square 20 = .ok (.ireturn, 1) := by decide +kernel
theorem eL_square {W : zWd} {t t' : Nat} {p0 p1 : Int} {Q : Option Value → zWd → Prop} (ht : t' ≤ t) (h : Ev MX6_square 8 t' W [.ref 96, zI p0, zI p1] (fun r W' => ∃ z : Int, r = some (zI z) ∧ Q (some (zI 0)) (zup W' 128 0 z)) (fun E W' => (E = "java/lang/IndexOutOfBoundsException" ∧ Q (some (zI 1)) W') ∨ (E = "java/lang/IllegalArgumentException" ∧ Q (some (zI 2)) W'))) : EvH ML_square hL_square 9 t W [.ref 96, zI p0, zI p1, .ref 128] Q := by
  refine ev_ofH (ls := [.ref 96, zI p0, zI p1, .ref 128, .null]) (by decide) rfl rfl (fun _ => rfl) (fun _ => Nat.le_of_ble_eq_true rfl) ?_
  refine hh_aload_n (pc := 0) dL_square_0 rfl ?_
  refine hh_iconst (n := 0) dL_square_1 ?_
  refine hh_aload_n (pc := 2) dL_square_2 rfl ?_
  refine hh_iload_n (pc := 3) dL_square_3 rfl ?_
  refine hh_iload_n (pc := 4) dL_square_4 rfl ?_
  refine hh_inv (d' := 8) (t' := t') (M' := MX6_square) (k := 96) (As := [_, _]) (pc := 5) dL_square_5 lL_27 kX6_square vX6_square zk_96 (by decide) rfl (by decide) ht (Nat.le_of_ble_eq_true rfl) (Nat.le_of_ble_eq_true rfl) rfl ?_
  refine ev_mono h (fun r W2 hr => ?_) (fun E W2 hE => ?_)
  · obtain ⟨z, rfl, hq⟩ := hr
    refine hh_out (pc := 8) dL_square_8 dL_square_9 ?_
    refine hh_goto (pc := 10) (tgt := 21) dL_square_10 (by decide) ?_
    refine hh_iconst (n := 0) dL_square_21 ?_
    exact hh_reti dL_square_22 hq
  · rcases hE with ⟨rfl, hq⟩ | ⟨rfl, hq⟩
    · exact ⟨[], (0, 10, 13, 25), [(0, 10, 17, 19)], "java/lang/IndexOutOfBoundsException", 1, 2, rfl, fun _ hy => absurd hy List.not_mem_nil, by decide, by decide, by decide, zcl_25, zcast_IO, Or.inr ⟨4, rfl, dL_square_13, by decide⟩, dL_square_15, dL_square_16, hq⟩
    · exact ⟨[(0, 10, 13, 25)], (0, 10, 17, 19), [], "java/lang/IllegalArgumentException", 2, 2, rfl, fun y hy => by
        rcases List.mem_singleton.mp hy with rfl
        exact ⟨by decide, zcl_25, Or.inl rfl⟩, by decide, by decide, by decide, zcl_19, zcast_IA, Or.inr ⟨4, rfl, dL_square_17, by decide⟩, dL_square_19, dL_square_20, hq⟩
abbrev ML_row : zM := (RL, cL_row, 4, yL_row, (some .int))
abbrev hL_row : List (Nat × Nat × Nat × Nat) := [(0, 9, 12, 25)]
theorem dL_row_0 : decode cL_row 0 = .ok (.aload_n 2, 1) := by decide +kernel
theorem dL_row_1 : decode cL_row 1 = .ok (.iconst 0, 1) := by decide +kernel
theorem dL_row_2 : decode cL_row 2 = .ok (.aload_n 0, 1) := by decide +kernel
theorem dL_row_3 : decode cL_row 3 = .ok (.iload_n 1, 1) := by decide +kernel
theorem dL_row_4 : decode cL_row 4 = .ok (.invokevirtual 30, 3) := by decide +kernel
theorem dL_row_7 : decode cL_row 7 = .ok (.i2l, 1) := by decide +kernel
theorem dL_row_8 : decode cL_row 8 = .ok (.lastore, 1) := by decide +kernel
theorem dL_row_9 : decode cL_row 9 = .ok (.goto 6, 3) := by decide +kernel
theorem dL_row_15 : decode cL_row 15 = .ok (.iconst 0, 1) := by decide +kernel
theorem dL_row_16 : decode cL_row 16 = .ok (.ireturn, 1) := by decide +kernel
theorem dL_row_12 : decode cL_row 12 = .ok (.astore_n 3, 1) := by decide +kernel
theorem dL_row_13 : decode cL_row 13 = .ok (.iconst 1, 1) := by decide +kernel
theorem dL_row_14 : decode cL_row 14 = .ok (.ireturn, 1) := by decide +kernel
theorem eL_row {W : zWd} {t t' : Nat} {p0 : Int} {Q : Option Value → zWd → Prop} (ht : t' ≤ t) (h : Ev MX6_row 8 t' W [.ref 96, zI p0] (fun r W' => ∃ z : Int, r = some (zI z) ∧ Q (some (zI 0)) (zup W' 128 0 z)) (fun E W' => (E = "java/lang/IndexOutOfBoundsException" ∧ Q (some (zI 1)) W'))) : EvH ML_row hL_row 9 t W [.ref 96, zI p0, .ref 128] Q := by
  refine ev_ofH (ls := [.ref 96, zI p0, .ref 128, .null]) (by decide) rfl rfl (fun _ => rfl) (fun _ => Nat.le_of_ble_eq_true rfl) ?_
  refine hh_aload_n (pc := 0) dL_row_0 rfl ?_
  refine hh_iconst (n := 0) dL_row_1 ?_
  refine hh_aload_n (pc := 2) dL_row_2 rfl ?_
  refine hh_iload_n (pc := 3) dL_row_3 rfl ?_
  refine hh_inv (d' := 8) (t' := t') (M' := MX6_row) (k := 96) (As := [_]) (pc := 4) dL_row_4 lL_30 kX6_row vX6_row zk_96 (by decide) rfl (by decide) ht (Nat.le_of_ble_eq_true rfl) (Nat.le_of_ble_eq_true rfl) rfl ?_
  refine ev_mono h (fun r W2 hr => ?_) (fun E W2 hE => ?_)
  · obtain ⟨z, rfl, hq⟩ := hr
    refine hh_out (pc := 7) dL_row_7 dL_row_8 ?_
    refine hh_goto (pc := 9) (tgt := 15) dL_row_9 (by decide) ?_
    refine hh_iconst (n := 0) dL_row_15 ?_
    exact hh_reti dL_row_16 hq
  · obtain ⟨rfl, hq⟩ := hE
    exact ⟨[], (0, 9, 12, 25), [], "java/lang/IndexOutOfBoundsException", 1, 1, rfl, fun _ hy => absurd hy List.not_mem_nil, by decide, by decide, by decide, zcl_25, zcast_IO, Or.inl ⟨3, rfl, dL_row_12, by decide⟩, dL_row_13, dL_row_14, hq⟩
abbrev ML_footing : zM := (RL, cL_footing, 5, yL_footing, (some .int))
abbrev hL_footing : List (Nat × Nat × Nat × Nat) := [(0, 10, 13, 25)]
theorem dL_footing_0 : decode cL_footing 0 = .ok (.aload_n 3, 1) := by decide +kernel
theorem dL_footing_1 : decode cL_footing 1 = .ok (.iconst 0, 1) := by decide +kernel
theorem dL_footing_2 : decode cL_footing 2 = .ok (.aload_n 0, 1) := by decide +kernel
theorem dL_footing_3 : decode cL_footing 3 = .ok (.iload_n 1, 1) := by decide +kernel
theorem dL_footing_4 : decode cL_footing 4 = .ok (.iload_n 2, 1) := by decide +kernel
theorem dL_footing_5 : decode cL_footing 5 = .ok (.invokevirtual 33, 3) := by decide +kernel
theorem dL_footing_8 : decode cL_footing 8 = .ok (.i2l, 1) := by decide +kernel
theorem dL_footing_9 : decode cL_footing 9 = .ok (.lastore, 1) := by decide +kernel
theorem dL_footing_10 : decode cL_footing 10 = .ok (.goto 7, 3) := by decide +kernel
theorem dL_footing_17 : decode cL_footing 17 = .ok (.iconst 0, 1) := by decide +kernel
theorem dL_footing_18 : decode cL_footing 18 = .ok (.ireturn, 1) := by decide +kernel
theorem dL_footing_13 : decode cL_footing 13 = .ok (.astore 4, 2) := by decide +kernel
theorem dL_footing_15 : decode cL_footing 15 = .ok (.iconst 1, 1) := by decide +kernel
theorem dL_footing_16 : decode cL_footing 16 = .ok (.ireturn, 1) := by decide +kernel
theorem eL_footing {W : zWd} {t t' : Nat} {p0 p1 : Int} {Q : Option Value → zWd → Prop} (ht : t' ≤ t) (h : Ev MX6_footing 8 t' W [.ref 96, zI p0, zI p1] (fun r W' => ∃ z : Int, r = some (zI z) ∧ Q (some (zI 0)) (zup W' 128 0 z)) (fun E W' => (E = "java/lang/IndexOutOfBoundsException" ∧ Q (some (zI 1)) W'))) : EvH ML_footing hL_footing 9 t W [.ref 96, zI p0, zI p1, .ref 128] Q := by
  refine ev_ofH (ls := [.ref 96, zI p0, zI p1, .ref 128, .null]) (by decide) rfl rfl (fun _ => rfl) (fun _ => Nat.le_of_ble_eq_true rfl) ?_
  refine hh_aload_n (pc := 0) dL_footing_0 rfl ?_
  refine hh_iconst (n := 0) dL_footing_1 ?_
  refine hh_aload_n (pc := 2) dL_footing_2 rfl ?_
  refine hh_iload_n (pc := 3) dL_footing_3 rfl ?_
  refine hh_iload_n (pc := 4) dL_footing_4 rfl ?_
  refine hh_inv (d' := 8) (t' := t') (M' := MX6_footing) (k := 96) (As := [_, _]) (pc := 5) dL_footing_5 lL_33 kX6_footing vX6_footing zk_96 (by decide) rfl (by decide) ht (Nat.le_of_ble_eq_true rfl) (Nat.le_of_ble_eq_true rfl) rfl ?_
  refine ev_mono h (fun r W2 hr => ?_) (fun E W2 hE => ?_)
  · obtain ⟨z, rfl, hq⟩ := hr
    refine hh_out (pc := 8) dL_footing_8 dL_footing_9 ?_
    refine hh_goto (pc := 10) (tgt := 17) dL_footing_10 (by decide) ?_
    refine hh_iconst (n := 0) dL_footing_17 ?_
    exact hh_reti dL_footing_18 hq
  · obtain ⟨rfl, hq⟩ := hE
    exact ⟨[], (0, 10, 13, 25), [], "java/lang/IndexOutOfBoundsException", 1, 2, rfl, fun _ hy => absurd hy List.not_mem_nil, by decide, by decide, by decide, zcl_25, zcast_IO, Or.inr ⟨4, rfl, dL_footing_13, by decide⟩, dL_footing_15, dL_footing_16, hq⟩
abbrev ML_throwFault : zM := (RL, cL_throwFault, 6, yL_throwFault, (some .int))
abbrev hL_throwFault : List (Nat × Nat × Nat × Nat) := [(0, 12, 15, 25), (0, 12, 19, 19)]
theorem dL_throwFault_0 : decode cL_throwFault 0 = .ok (.aload 4, 2) := by decide +kernel
theorem dL_throwFault_2 : decode cL_throwFault 2 = .ok (.iconst 0, 1) := by decide +kernel
theorem dL_throwFault_3 : decode cL_throwFault 3 = .ok (.aload_n 0, 1) := by decide +kernel
theorem dL_throwFault_4 : decode cL_throwFault 4 = .ok (.iload_n 1, 1) := by decide +kernel
theorem dL_throwFault_5 : decode cL_throwFault 5 = .ok (.iload_n 2, 1) := by decide +kernel
theorem dL_throwFault_6 : decode cL_throwFault 6 = .ok (.iload_n 3, 1) := by decide +kernel
theorem dL_throwFault_7 : decode cL_throwFault 7 = .ok (.invokevirtual 36, 3) := by decide +kernel
theorem dL_throwFault_10 : decode cL_throwFault 10 = .ok (.i2l, 1) := by decide +kernel
theorem dL_throwFault_11 : decode cL_throwFault 11 = .ok (.lastore, 1) := by decide +kernel
theorem dL_throwFault_12 : decode cL_throwFault 12 = .ok (.goto 11, 3) := by decide +kernel
theorem dL_throwFault_23 : decode cL_throwFault 23 = .ok (.iconst 0, 1) := by decide +kernel
theorem dL_throwFault_24 : decode cL_throwFault 24 = .ok (.ireturn, 1) := by decide +kernel
theorem dL_throwFault_15 : decode cL_throwFault 15 = .ok (.astore 5, 2) := by decide +kernel
theorem dL_throwFault_17 : decode cL_throwFault 17 = .ok (.iconst 1, 1) := by decide +kernel
theorem dL_throwFault_18 : decode cL_throwFault 18 = .ok (.ireturn, 1) := by decide +kernel
theorem dL_throwFault_19 : decode cL_throwFault 19 = .ok (.astore 5, 2) := by decide +kernel
theorem dL_throwFault_21 : decode cL_throwFault 21 = .ok (.iconst 2, 1) := by decide +kernel
theorem dL_throwFault_22 : decode cL_throwFault 22 = .ok (.ireturn, 1) := by decide +kernel
theorem eL_throwFault {W : zWd} {t t' : Nat} {p0 p1 p2 : Int} {Q : Option Value → zWd → Prop} (ht : t' ≤ t) (h : Ev MX6_throwFault 8 t' W [.ref 96, zI p0, zI p1, zI p2] (fun r W' => ∃ z : Int, r = some (zI z) ∧ Q (some (zI 0)) (zup W' 128 0 z)) (fun E W' => (E = "java/lang/IndexOutOfBoundsException" ∧ Q (some (zI 1)) W') ∨ (E = "java/lang/IllegalArgumentException" ∧ Q (some (zI 2)) W'))) : EvH ML_throwFault hL_throwFault 9 t W [.ref 96, zI p0, zI p1, zI p2, .ref 128] Q := by
  refine ev_ofH (ls := [.ref 96, zI p0, zI p1, zI p2, .ref 128, .null]) (by decide) rfl rfl (fun _ => rfl) (fun _ => Nat.le_of_ble_eq_true rfl) ?_
  refine hh_aload (pc := 0) dL_throwFault_0 rfl ?_
  refine hh_iconst (n := 0) dL_throwFault_2 ?_
  refine hh_aload_n (pc := 3) dL_throwFault_3 rfl ?_
  refine hh_iload_n (pc := 4) dL_throwFault_4 rfl ?_
  refine hh_iload_n (pc := 5) dL_throwFault_5 rfl ?_
  refine hh_iload_n (pc := 6) dL_throwFault_6 rfl ?_
  refine hh_inv (d' := 8) (t' := t') (M' := MX6_throwFault) (k := 96) (As := [_, _, _]) (pc := 7) dL_throwFault_7 lL_36 kX6_throwFault vX6_throwFault zk_96 (by decide) rfl (by decide) ht (Nat.le_of_ble_eq_true rfl) (Nat.le_of_ble_eq_true rfl) rfl ?_
  refine ev_mono h (fun r W2 hr => ?_) (fun E W2 hE => ?_)
  · obtain ⟨z, rfl, hq⟩ := hr
    refine hh_out (pc := 10) dL_throwFault_10 dL_throwFault_11 ?_
    refine hh_goto (pc := 12) (tgt := 23) dL_throwFault_12 (by decide) ?_
    refine hh_iconst (n := 0) dL_throwFault_23 ?_
    exact hh_reti dL_throwFault_24 hq
  · rcases hE with ⟨rfl, hq⟩ | ⟨rfl, hq⟩
    · exact ⟨[], (0, 12, 15, 25), [(0, 12, 19, 19)], "java/lang/IndexOutOfBoundsException", 1, 2, rfl, fun _ hy => absurd hy List.not_mem_nil, by decide, by decide, by decide, zcl_25, zcast_IO, Or.inr ⟨5, rfl, dL_throwFault_15, by decide⟩, dL_throwFault_17, dL_throwFault_18, hq⟩
    · exact ⟨[(0, 12, 15, 25)], (0, 12, 19, 19), [], "java/lang/IllegalArgumentException", 2, 2, rfl, fun y hy => by
        rcases List.mem_singleton.mp hy with rfl
        exact ⟨by decide, zcl_25, Or.inl rfl⟩, by decide, by decide, by decide, zcl_19, zcast_IA, Or.inr ⟨5, rfl, dL_throwFault_19, by decide⟩, dL_throwFault_21, dL_throwFault_22, hq⟩
abbrev ML_bestThrow : zM := (RL, cL_bestThrow, 4, yL_bestThrow, (some .int))
abbrev hL_bestThrow : List (Nat × Nat × Nat × Nat) := [(0, 9, 12, 25)]
theorem dL_bestThrow_0 : decode cL_bestThrow 0 = .ok (.aload_n 2, 1) := by decide +kernel
theorem dL_bestThrow_1 : decode cL_bestThrow 1 = .ok (.iconst 0, 1) := by decide +kernel
theorem dL_bestThrow_2 : decode cL_bestThrow 2 = .ok (.aload_n 0, 1) := by decide +kernel
theorem dL_bestThrow_3 : decode cL_bestThrow 3 = .ok (.iload_n 1, 1) := by decide +kernel
theorem dL_bestThrow_4 : decode cL_bestThrow 4 = .ok (.invokevirtual 40, 3) := by decide +kernel
theorem dL_bestThrow_7 : decode cL_bestThrow 7 = .ok (.i2l, 1) := by decide +kernel
theorem dL_bestThrow_8 : decode cL_bestThrow 8 = .ok (.lastore, 1) := by decide +kernel
theorem dL_bestThrow_9 : decode cL_bestThrow 9 = .ok (.goto 6, 3) := by decide +kernel
theorem dL_bestThrow_15 : decode cL_bestThrow 15 = .ok (.iconst 0, 1) := by decide +kernel
theorem dL_bestThrow_16 : decode cL_bestThrow 16 = .ok (.ireturn, 1) := by decide +kernel
theorem dL_bestThrow_12 : decode cL_bestThrow 12 = .ok (.astore_n 3, 1) := by decide +kernel
theorem dL_bestThrow_13 : decode cL_bestThrow 13 = .ok (.iconst 1, 1) := by decide +kernel
theorem dL_bestThrow_14 : decode cL_bestThrow 14 = .ok (.ireturn, 1) := by decide +kernel
theorem eL_bestThrow {W : zWd} {t t' : Nat} {p0 : Int} {Q : Option Value → zWd → Prop} (ht : t' ≤ t) (h : Ev MX6_bestThrow 8 t' W [.ref 96, zI p0] (fun r W' => ∃ z : Int, r = some (zI z) ∧ Q (some (zI 0)) (zup W' 128 0 z)) (fun E W' => (E = "java/lang/IndexOutOfBoundsException" ∧ Q (some (zI 1)) W'))) : EvH ML_bestThrow hL_bestThrow 9 t W [.ref 96, zI p0, .ref 128] Q := by
  refine ev_ofH (ls := [.ref 96, zI p0, .ref 128, .null]) (by decide) rfl rfl (fun _ => rfl) (fun _ => Nat.le_of_ble_eq_true rfl) ?_
  refine hh_aload_n (pc := 0) dL_bestThrow_0 rfl ?_
  refine hh_iconst (n := 0) dL_bestThrow_1 ?_
  refine hh_aload_n (pc := 2) dL_bestThrow_2 rfl ?_
  refine hh_iload_n (pc := 3) dL_bestThrow_3 rfl ?_
  refine hh_inv (d' := 8) (t' := t') (M' := MX6_bestThrow) (k := 96) (As := [_]) (pc := 4) dL_bestThrow_4 lL_40 kX6_bestThrow vX6_bestThrow zk_96 (by decide) rfl (by decide) ht (Nat.le_of_ble_eq_true rfl) (Nat.le_of_ble_eq_true rfl) rfl ?_
  refine ev_mono h (fun r W2 hr => ?_) (fun E W2 hE => ?_)
  · obtain ⟨z, rfl, hq⟩ := hr
    refine hh_out (pc := 7) dL_bestThrow_7 dL_bestThrow_8 ?_
    refine hh_goto (pc := 9) (tgt := 15) dL_bestThrow_9 (by decide) ?_
    refine hh_iconst (n := 0) dL_bestThrow_15 ?_
    exact hh_reti dL_bestThrow_16 hq
  · obtain ⟨rfl, hq⟩ := hE
    exact ⟨[], (0, 9, 12, 25), [], "java/lang/IndexOutOfBoundsException", 1, 1, rfl, fun _ hy => absurd hy List.not_mem_nil, by decide, by decide, by decide, zcl_25, zcast_IO, Or.inl ⟨3, rfl, dL_bestThrow_12, by decide⟩, dL_bestThrow_13, dL_bestThrow_14, hq⟩
abbrev ML_hopFault : zM := (RL, cL_hopFault, 4, yL_hopFault, (some .int))
abbrev hL_hopFault : List (Nat × Nat × Nat × Nat) := [(0, 9, 12, 25)]
theorem dL_hopFault_0 : decode cL_hopFault 0 = .ok (.aload_n 2, 1) := by decide +kernel
theorem dL_hopFault_1 : decode cL_hopFault 1 = .ok (.iconst 0, 1) := by decide +kernel
theorem dL_hopFault_2 : decode cL_hopFault 2 = .ok (.aload_n 0, 1) := by decide +kernel
theorem dL_hopFault_3 : decode cL_hopFault 3 = .ok (.iload_n 1, 1) := by decide +kernel
theorem dL_hopFault_4 : decode cL_hopFault 4 = .ok (.invokevirtual 43, 3) := by decide +kernel
theorem dL_hopFault_7 : decode cL_hopFault 7 = .ok (.i2l, 1) := by decide +kernel
theorem dL_hopFault_8 : decode cL_hopFault 8 = .ok (.lastore, 1) := by decide +kernel
theorem dL_hopFault_9 : decode cL_hopFault 9 = .ok (.goto 6, 3) := by decide +kernel
theorem dL_hopFault_15 : decode cL_hopFault 15 = .ok (.iconst 0, 1) := by decide +kernel
theorem dL_hopFault_16 : decode cL_hopFault 16 = .ok (.ireturn, 1) := by decide +kernel
theorem dL_hopFault_12 : decode cL_hopFault 12 = .ok (.astore_n 3, 1) := by decide +kernel
theorem dL_hopFault_13 : decode cL_hopFault 13 = .ok (.iconst 1, 1) := by decide +kernel
theorem dL_hopFault_14 : decode cL_hopFault 14 = .ok (.ireturn, 1) := by decide +kernel
theorem eL_hopFault {W : zWd} {t t' : Nat} {p0 : Int} {Q : Option Value → zWd → Prop} (ht : t' ≤ t) (h : Ev MX6_hopFault 8 t' W [.ref 96, zI p0] (fun r W' => ∃ z : Int, r = some (zI z) ∧ Q (some (zI 0)) (zup W' 128 0 z)) (fun E W' => (E = "java/lang/IndexOutOfBoundsException" ∧ Q (some (zI 1)) W'))) : EvH ML_hopFault hL_hopFault 9 t W [.ref 96, zI p0, .ref 128] Q := by
  refine ev_ofH (ls := [.ref 96, zI p0, .ref 128, .null]) (by decide) rfl rfl (fun _ => rfl) (fun _ => Nat.le_of_ble_eq_true rfl) ?_
  refine hh_aload_n (pc := 0) dL_hopFault_0 rfl ?_
  refine hh_iconst (n := 0) dL_hopFault_1 ?_
  refine hh_aload_n (pc := 2) dL_hopFault_2 rfl ?_
  refine hh_iload_n (pc := 3) dL_hopFault_3 rfl ?_
  refine hh_inv (d' := 8) (t' := t') (M' := MX6_hopFault) (k := 96) (As := [_]) (pc := 4) dL_hopFault_4 lL_43 kX6_hopFault vX6_hopFault zk_96 (by decide) rfl (by decide) ht (Nat.le_of_ble_eq_true rfl) (Nat.le_of_ble_eq_true rfl) rfl ?_
  refine ev_mono h (fun r W2 hr => ?_) (fun E W2 hE => ?_)
  · obtain ⟨z, rfl, hq⟩ := hr
    refine hh_out (pc := 7) dL_hopFault_7 dL_hopFault_8 ?_
    refine hh_goto (pc := 9) (tgt := 15) dL_hopFault_9 (by decide) ?_
    refine hh_iconst (n := 0) dL_hopFault_15 ?_
    exact hh_reti dL_hopFault_16 hq
  · obtain ⟨rfl, hq⟩ := hE
    exact ⟨[], (0, 9, 12, 25), [], "java/lang/IndexOutOfBoundsException", 1, 1, rfl, fun _ hy => absurd hy List.not_mem_nil, by decide, by decide, by decide, zcl_25, zcast_IO, Or.inl ⟨3, rfl, dL_hopFault_12, by decide⟩, dL_hopFault_13, dL_hopFault_14, hq⟩
abbrev ML_cost : zM := (RL, cL_cost, 5, yL_cost, (some .int))
abbrev hL_cost : List (Nat × Nat × Nat × Nat) := [(0, 10, 13, 25)]
theorem dL_cost_0 : decode cL_cost 0 = .ok (.aload_n 3, 1) := by decide +kernel
theorem dL_cost_1 : decode cL_cost 1 = .ok (.iconst 0, 1) := by decide +kernel
theorem dL_cost_2 : decode cL_cost 2 = .ok (.aload_n 0, 1) := by decide +kernel
theorem dL_cost_3 : decode cL_cost 3 = .ok (.iload_n 1, 1) := by decide +kernel
theorem dL_cost_4 : decode cL_cost 4 = .ok (.iload_n 2, 1) := by decide +kernel
theorem dL_cost_5 : decode cL_cost 5 = .ok (.invokevirtual 46, 3) := by decide +kernel
theorem dL_cost_8 : decode cL_cost 8 = .ok (.i2l, 1) := by decide +kernel
theorem dL_cost_9 : decode cL_cost 9 = .ok (.lastore, 1) := by decide +kernel
theorem dL_cost_10 : decode cL_cost 10 = .ok (.goto 7, 3) := by decide +kernel
theorem dL_cost_17 : decode cL_cost 17 = .ok (.iconst 0, 1) := by decide +kernel
theorem dL_cost_18 : decode cL_cost 18 = .ok (.ireturn, 1) := by decide +kernel
theorem dL_cost_13 : decode cL_cost 13 = .ok (.astore 4, 2) := by decide +kernel
theorem dL_cost_15 : decode cL_cost 15 = .ok (.iconst 1, 1) := by decide +kernel
theorem dL_cost_16 : decode cL_cost 16 = .ok (.ireturn, 1) := by decide +kernel
theorem eL_cost {W : zWd} {t t' : Nat} {p0 p1 : Int} {Q : Option Value → zWd → Prop} (ht : t' ≤ t) (h : Ev MX6_cost 8 t' W [.ref 96, zI p0, zI p1] (fun r W' => ∃ z : Int, r = some (zI z) ∧ Q (some (zI 0)) (zup W' 128 0 z)) (fun E W' => (E = "java/lang/IndexOutOfBoundsException" ∧ Q (some (zI 1)) W'))) : EvH ML_cost hL_cost 9 t W [.ref 96, zI p0, zI p1, .ref 128] Q := by
  refine ev_ofH (ls := [.ref 96, zI p0, zI p1, .ref 128, .null]) (by decide) rfl rfl (fun _ => rfl) (fun _ => Nat.le_of_ble_eq_true rfl) ?_
  refine hh_aload_n (pc := 0) dL_cost_0 rfl ?_
  refine hh_iconst (n := 0) dL_cost_1 ?_
  refine hh_aload_n (pc := 2) dL_cost_2 rfl ?_
  refine hh_iload_n (pc := 3) dL_cost_3 rfl ?_
  refine hh_iload_n (pc := 4) dL_cost_4 rfl ?_
  refine hh_inv (d' := 8) (t' := t') (M' := MX6_cost) (k := 96) (As := [_, _]) (pc := 5) dL_cost_5 lL_46 kX6_cost vX6_cost zk_96 (by decide) rfl (by decide) ht (Nat.le_of_ble_eq_true rfl) (Nat.le_of_ble_eq_true rfl) rfl ?_
  refine ev_mono h (fun r W2 hr => ?_) (fun E W2 hE => ?_)
  · obtain ⟨z, rfl, hq⟩ := hr
    refine hh_out (pc := 8) dL_cost_8 dL_cost_9 ?_
    refine hh_goto (pc := 10) (tgt := 17) dL_cost_10 (by decide) ?_
    refine hh_iconst (n := 0) dL_cost_17 ?_
    exact hh_reti dL_cost_18 hq
  · obtain ⟨rfl, hq⟩ := hE
    exact ⟨[], (0, 10, 13, 25), [], "java/lang/IndexOutOfBoundsException", 1, 2, rfl, fun _ hy => absurd hy List.not_mem_nil, by decide, by decide, by decide, zcl_25, zcast_IO, Or.inr ⟨4, rfl, dL_cost_13, by decide⟩, dL_cost_15, dL_cost_16, hq⟩
abbrev ML_place : zM := (RL, cL_place, 6, yL_place, (some .int))
abbrev hL_place : List (Nat × Nat × Nat × Nat) := [(0, 12, 15, 25)]
theorem dL_place_0 : decode cL_place 0 = .ok (.aload 4, 2) := by decide +kernel
theorem dL_place_2 : decode cL_place 2 = .ok (.iconst 0, 1) := by decide +kernel
theorem dL_place_3 : decode cL_place 3 = .ok (.aload_n 0, 1) := by decide +kernel
theorem dL_place_4 : decode cL_place 4 = .ok (.iload_n 1, 1) := by decide +kernel
theorem dL_place_5 : decode cL_place 5 = .ok (.iload_n 2, 1) := by decide +kernel
theorem dL_place_6 : decode cL_place 6 = .ok (.iload_n 3, 1) := by decide +kernel
theorem dL_place_7 : decode cL_place 7 = .ok (.invokevirtual 50, 3) := by decide +kernel
theorem dL_place_10 : decode cL_place 10 = .ok (.i2l, 1) := by decide +kernel
theorem dL_place_11 : decode cL_place 11 = .ok (.lastore, 1) := by decide +kernel
theorem dL_place_12 : decode cL_place 12 = .ok (.goto 7, 3) := by decide +kernel
theorem dL_place_19 : decode cL_place 19 = .ok (.iconst 0, 1) := by decide +kernel
theorem dL_place_20 : decode cL_place 20 = .ok (.ireturn, 1) := by decide +kernel
theorem dL_place_15 : decode cL_place 15 = .ok (.astore 5, 2) := by decide +kernel
theorem dL_place_17 : decode cL_place 17 = .ok (.iconst 1, 1) := by decide +kernel
theorem dL_place_18 : decode cL_place 18 = .ok (.ireturn, 1) := by decide +kernel
theorem eL_place {W : zWd} {t t' : Nat} {p0 p1 p2 : Int} {Q : Option Value → zWd → Prop} (ht : t' ≤ t) (h : Ev MX6_place 8 t' W [.ref 96, zI p0, zI p1, zI p2] (fun r W' => ∃ z : Int, r = some (zI z) ∧ Q (some (zI 0)) (zup W' 128 0 z)) (fun E W' => (E = "java/lang/IndexOutOfBoundsException" ∧ Q (some (zI 1)) W'))) : EvH ML_place hL_place 9 t W [.ref 96, zI p0, zI p1, zI p2, .ref 128] Q := by
  refine ev_ofH (ls := [.ref 96, zI p0, zI p1, zI p2, .ref 128, .null]) (by decide) rfl rfl (fun _ => rfl) (fun _ => Nat.le_of_ble_eq_true rfl) ?_
  refine hh_aload (pc := 0) dL_place_0 rfl ?_
  refine hh_iconst (n := 0) dL_place_2 ?_
  refine hh_aload_n (pc := 3) dL_place_3 rfl ?_
  refine hh_iload_n (pc := 4) dL_place_4 rfl ?_
  refine hh_iload_n (pc := 5) dL_place_5 rfl ?_
  refine hh_iload_n (pc := 6) dL_place_6 rfl ?_
  refine hh_inv (d' := 8) (t' := t') (M' := MX6_place) (k := 96) (As := [_, _, _]) (pc := 7) dL_place_7 lL_50 kX6_place vX6_place zk_96 (by decide) rfl (by decide) ht (Nat.le_of_ble_eq_true rfl) (Nat.le_of_ble_eq_true rfl) rfl ?_
  refine ev_mono h (fun r W2 hr => ?_) (fun E W2 hE => ?_)
  · obtain ⟨z, rfl, hq⟩ := hr
    refine hh_out (pc := 10) dL_place_10 dL_place_11 ?_
    refine hh_goto (pc := 12) (tgt := 19) dL_place_12 (by decide) ?_
    refine hh_iconst (n := 0) dL_place_19 ?_
    exact hh_reti dL_place_20 hq
  · obtain ⟨rfl, hq⟩ := hE
    exact ⟨[], (0, 12, 15, 25), [], "java/lang/IndexOutOfBoundsException", 1, 2, rfl, fun _ hy => absurd hy List.not_mem_nil, by decide, by decide, by decide, zcl_25, zcast_IO, Or.inr ⟨5, rfl, dL_place_15, by decide⟩, dL_place_17, dL_place_18, hq⟩
abbrev ML_leastReach : zM := (RL, cL_leastReach, 4, yL_leastReach, (some .int))
abbrev hL_leastReach : List (Nat × Nat × Nat × Nat) := [(0, 9, 12, 25)]
theorem dL_leastReach_0 : decode cL_leastReach 0 = .ok (.aload_n 2, 1) := by decide +kernel
theorem dL_leastReach_1 : decode cL_leastReach 1 = .ok (.iconst 0, 1) := by decide +kernel
theorem dL_leastReach_2 : decode cL_leastReach 2 = .ok (.aload_n 0, 1) := by decide +kernel
theorem dL_leastReach_3 : decode cL_leastReach 3 = .ok (.iload_n 1, 1) := by decide +kernel
theorem dL_leastReach_4 : decode cL_leastReach 4 = .ok (.invokevirtual 54, 3) := by decide +kernel
theorem dL_leastReach_7 : decode cL_leastReach 7 = .ok (.i2l, 1) := by decide +kernel
theorem dL_leastReach_8 : decode cL_leastReach 8 = .ok (.lastore, 1) := by decide +kernel
theorem dL_leastReach_9 : decode cL_leastReach 9 = .ok (.goto 6, 3) := by decide +kernel
theorem dL_leastReach_15 : decode cL_leastReach 15 = .ok (.iconst 0, 1) := by decide +kernel
theorem dL_leastReach_16 : decode cL_leastReach 16 = .ok (.ireturn, 1) := by decide +kernel
theorem dL_leastReach_12 : decode cL_leastReach 12 = .ok (.astore_n 3, 1) := by decide +kernel
theorem dL_leastReach_13 : decode cL_leastReach 13 = .ok (.iconst 1, 1) := by decide +kernel
theorem dL_leastReach_14 : decode cL_leastReach 14 = .ok (.ireturn, 1) := by decide +kernel
theorem eL_leastReach {W : zWd} {t t' : Nat} {p0 : Int} {Q : Option Value → zWd → Prop} (ht : t' ≤ t) (h : Ev MX6_leastReach 8 t' W [.ref 96, zI p0] (fun r W' => ∃ z : Int, r = some (zI z) ∧ Q (some (zI 0)) (zup W' 128 0 z)) (fun E W' => (E = "java/lang/IndexOutOfBoundsException" ∧ Q (some (zI 1)) W'))) : EvH ML_leastReach hL_leastReach 9 t W [.ref 96, zI p0, .ref 128] Q := by
  refine ev_ofH (ls := [.ref 96, zI p0, .ref 128, .null]) (by decide) rfl rfl (fun _ => rfl) (fun _ => Nat.le_of_ble_eq_true rfl) ?_
  refine hh_aload_n (pc := 0) dL_leastReach_0 rfl ?_
  refine hh_iconst (n := 0) dL_leastReach_1 ?_
  refine hh_aload_n (pc := 2) dL_leastReach_2 rfl ?_
  refine hh_iload_n (pc := 3) dL_leastReach_3 rfl ?_
  refine hh_inv (d' := 8) (t' := t') (M' := MX6_leastReach) (k := 96) (As := [_]) (pc := 4) dL_leastReach_4 lL_54 kX6_leastReach vX6_leastReach zk_96 (by decide) rfl (by decide) ht (Nat.le_of_ble_eq_true rfl) (Nat.le_of_ble_eq_true rfl) rfl ?_
  refine ev_mono h (fun r W2 hr => ?_) (fun E W2 hE => ?_)
  · obtain ⟨z, rfl, hq⟩ := hr
    refine hh_out (pc := 7) dL_leastReach_7 dL_leastReach_8 ?_
    refine hh_goto (pc := 9) (tgt := 15) dL_leastReach_9 (by decide) ?_
    refine hh_iconst (n := 0) dL_leastReach_15 ?_
    exact hh_reti dL_leastReach_16 hq
  · obtain ⟨rfl, hq⟩ := hE
    exact ⟨[], (0, 9, 12, 25), [], "java/lang/IndexOutOfBoundsException", 1, 1, rfl, fun _ hy => absurd hy List.not_mem_nil, by decide, by decide, by decide, zcl_25, zcast_IO, Or.inl ⟨3, rfl, dL_leastReach_12, by decide⟩, dL_leastReach_13, dL_leastReach_14, hq⟩
abbrev ML_playable : zM := (RL, cL_playable, 4, yL_playable, (some .int))
abbrev hL_playable : List (Nat × Nat × Nat × Nat) := [(0, 9, 12, 25)]
theorem dL_playable_0 : decode cL_playable 0 = .ok (.aload_n 2, 1) := by decide +kernel
theorem dL_playable_1 : decode cL_playable 1 = .ok (.iconst 0, 1) := by decide +kernel
theorem dL_playable_2 : decode cL_playable 2 = .ok (.aload_n 0, 1) := by decide +kernel
theorem dL_playable_3 : decode cL_playable 3 = .ok (.iload_n 1, 1) := by decide +kernel
theorem dL_playable_4 : decode cL_playable 4 = .ok (.invokevirtual 57, 3) := by decide +kernel
theorem dL_playable_7 : decode cL_playable 7 = .ok (.i2l, 1) := by decide +kernel
theorem dL_playable_8 : decode cL_playable 8 = .ok (.lastore, 1) := by decide +kernel
theorem dL_playable_9 : decode cL_playable 9 = .ok (.goto 6, 3) := by decide +kernel
theorem dL_playable_15 : decode cL_playable 15 = .ok (.iconst 0, 1) := by decide +kernel
theorem dL_playable_16 : decode cL_playable 16 = .ok (.ireturn, 1) := by decide +kernel
theorem dL_playable_12 : decode cL_playable 12 = .ok (.astore_n 3, 1) := by decide +kernel
theorem dL_playable_13 : decode cL_playable 13 = .ok (.iconst 1, 1) := by decide +kernel
theorem dL_playable_14 : decode cL_playable 14 = .ok (.ireturn, 1) := by decide +kernel
theorem eL_playable {W : zWd} {t t' : Nat} {p0 : Int} {Q : Option Value → zWd → Prop} (ht : t' ≤ t) (h : Ev MX6_playable 8 t' W [.ref 96, zI p0] (fun r W' => ∃ z : Int, r = some (zI z) ∧ Q (some (zI 0)) (zup W' 128 0 z)) (fun E W' => (E = "java/lang/IndexOutOfBoundsException" ∧ Q (some (zI 1)) W'))) : EvH ML_playable hL_playable 9 t W [.ref 96, zI p0, .ref 128] Q := by
  refine ev_ofH (ls := [.ref 96, zI p0, .ref 128, .null]) (by decide) rfl rfl (fun _ => rfl) (fun _ => Nat.le_of_ble_eq_true rfl) ?_
  refine hh_aload_n (pc := 0) dL_playable_0 rfl ?_
  refine hh_iconst (n := 0) dL_playable_1 ?_
  refine hh_aload_n (pc := 2) dL_playable_2 rfl ?_
  refine hh_iload_n (pc := 3) dL_playable_3 rfl ?_
  refine hh_inv (d' := 8) (t' := t') (M' := MX6_playable) (k := 96) (As := [_]) (pc := 4) dL_playable_4 lL_57 kX6_playable vX6_playable zk_96 (by decide) rfl (by decide) ht (Nat.le_of_ble_eq_true rfl) (Nat.le_of_ble_eq_true rfl) rfl ?_
  refine ev_mono h (fun r W2 hr => ?_) (fun E W2 hE => ?_)
  · obtain ⟨z, rfl, hq⟩ := hr
    refine hh_out (pc := 7) dL_playable_7 dL_playable_8 ?_
    refine hh_goto (pc := 9) (tgt := 15) dL_playable_9 (by decide) ?_
    refine hh_iconst (n := 0) dL_playable_15 ?_
    exact hh_reti dL_playable_16 hq
  · obtain ⟨rfl, hq⟩ := hE
    exact ⟨[], (0, 9, 12, 25), [], "java/lang/IndexOutOfBoundsException", 1, 1, rfl, fun _ hy => absurd hy List.not_mem_nil, by decide, by decide, by decide, zcl_25, zcast_IO, Or.inl ⟨3, rfl, dL_playable_12, by decide⟩, dL_playable_13, dL_playable_14, hq⟩
abbrev ML_bestClaim : zM := (RL, cL_bestClaim, 4, yL_bestClaim, (some .int))
abbrev hL_bestClaim : List (Nat × Nat × Nat × Nat) := [(0, 9, 12, 25)]
theorem dL_bestClaim_0 : decode cL_bestClaim 0 = .ok (.aload_n 2, 1) := by decide +kernel
theorem dL_bestClaim_1 : decode cL_bestClaim 1 = .ok (.iconst 0, 1) := by decide +kernel
theorem dL_bestClaim_2 : decode cL_bestClaim 2 = .ok (.aload_n 0, 1) := by decide +kernel
theorem dL_bestClaim_3 : decode cL_bestClaim 3 = .ok (.iload_n 1, 1) := by decide +kernel
theorem dL_bestClaim_4 : decode cL_bestClaim 4 = .ok (.invokevirtual 60, 3) := by decide +kernel
theorem dL_bestClaim_7 : decode cL_bestClaim 7 = .ok (.i2l, 1) := by decide +kernel
theorem dL_bestClaim_8 : decode cL_bestClaim 8 = .ok (.lastore, 1) := by decide +kernel
theorem dL_bestClaim_9 : decode cL_bestClaim 9 = .ok (.goto 6, 3) := by decide +kernel
theorem dL_bestClaim_15 : decode cL_bestClaim 15 = .ok (.iconst 0, 1) := by decide +kernel
theorem dL_bestClaim_16 : decode cL_bestClaim 16 = .ok (.ireturn, 1) := by decide +kernel
theorem dL_bestClaim_12 : decode cL_bestClaim 12 = .ok (.astore_n 3, 1) := by decide +kernel
theorem dL_bestClaim_13 : decode cL_bestClaim 13 = .ok (.iconst 1, 1) := by decide +kernel
theorem dL_bestClaim_14 : decode cL_bestClaim 14 = .ok (.ireturn, 1) := by decide +kernel
theorem eL_bestClaim {W : zWd} {t t' : Nat} {p0 : Int} {Q : Option Value → zWd → Prop} (ht : t' ≤ t) (h : Ev MX6_bestClaim 8 t' W [.ref 96, zI p0] (fun r W' => ∃ z : Int, r = some (zI z) ∧ Q (some (zI 0)) (zup W' 128 0 z)) (fun E W' => (E = "java/lang/IndexOutOfBoundsException" ∧ Q (some (zI 1)) W'))) : EvH ML_bestClaim hL_bestClaim 9 t W [.ref 96, zI p0, .ref 128] Q := by
  refine ev_ofH (ls := [.ref 96, zI p0, .ref 128, .null]) (by decide) rfl rfl (fun _ => rfl) (fun _ => Nat.le_of_ble_eq_true rfl) ?_
  refine hh_aload_n (pc := 0) dL_bestClaim_0 rfl ?_
  refine hh_iconst (n := 0) dL_bestClaim_1 ?_
  refine hh_aload_n (pc := 2) dL_bestClaim_2 rfl ?_
  refine hh_iload_n (pc := 3) dL_bestClaim_3 rfl ?_
  refine hh_inv (d' := 8) (t' := t') (M' := MX6_bestClaim) (k := 96) (As := [_]) (pc := 4) dL_bestClaim_4 lL_60 kX6_bestClaim vX6_bestClaim zk_96 (by decide) rfl (by decide) ht (Nat.le_of_ble_eq_true rfl) (Nat.le_of_ble_eq_true rfl) rfl ?_
  refine ev_mono h (fun r W2 hr => ?_) (fun E W2 hE => ?_)
  · obtain ⟨z, rfl, hq⟩ := hr
    refine hh_out (pc := 7) dL_bestClaim_7 dL_bestClaim_8 ?_
    refine hh_goto (pc := 9) (tgt := 15) dL_bestClaim_9 (by decide) ?_
    refine hh_iconst (n := 0) dL_bestClaim_15 ?_
    exact hh_reti dL_bestClaim_16 hq
  · obtain ⟨rfl, hq⟩ := hE
    exact ⟨[], (0, 9, 12, 25), [], "java/lang/IndexOutOfBoundsException", 1, 1, rfl, fun _ hy => absurd hy List.not_mem_nil, by decide, by decide, by decide, zcl_25, zcast_IO, Or.inl ⟨3, rfl, dL_bestClaim_12, by decide⟩, dL_bestClaim_13, dL_bestClaim_14, hq⟩
abbrev ML_turnsToCrown : zM := (RL, cL_turnsToCrown, 4, yL_turnsToCrown, (some .int))
abbrev hL_turnsToCrown : List (Nat × Nat × Nat × Nat) := [(0, 9, 12, 25)]
theorem dL_turnsToCrown_0 : decode cL_turnsToCrown 0 = .ok (.aload_n 2, 1) := by decide +kernel
theorem dL_turnsToCrown_1 : decode cL_turnsToCrown 1 = .ok (.iconst 0, 1) := by decide +kernel
theorem dL_turnsToCrown_2 : decode cL_turnsToCrown 2 = .ok (.aload_n 0, 1) := by decide +kernel
theorem dL_turnsToCrown_3 : decode cL_turnsToCrown 3 = .ok (.iload_n 1, 1) := by decide +kernel
theorem dL_turnsToCrown_4 : decode cL_turnsToCrown 4 = .ok (.invokevirtual 63, 3) := by decide +kernel
theorem dL_turnsToCrown_7 : decode cL_turnsToCrown 7 = .ok (.i2l, 1) := by decide +kernel
theorem dL_turnsToCrown_8 : decode cL_turnsToCrown 8 = .ok (.lastore, 1) := by decide +kernel
theorem dL_turnsToCrown_9 : decode cL_turnsToCrown 9 = .ok (.goto 6, 3) := by decide +kernel
theorem dL_turnsToCrown_15 : decode cL_turnsToCrown 15 = .ok (.iconst 0, 1) := by decide +kernel
theorem dL_turnsToCrown_16 : decode cL_turnsToCrown 16 = .ok (.ireturn, 1) := by decide +kernel
theorem dL_turnsToCrown_12 : decode cL_turnsToCrown 12 = .ok (.astore_n 3, 1) := by decide +kernel
theorem dL_turnsToCrown_13 : decode cL_turnsToCrown 13 = .ok (.iconst 1, 1) := by decide +kernel
theorem dL_turnsToCrown_14 : decode cL_turnsToCrown 14 = .ok (.ireturn, 1) := by decide +kernel
theorem eL_turnsToCrown {W : zWd} {t t' : Nat} {p0 : Int} {Q : Option Value → zWd → Prop} (ht : t' ≤ t) (h : Ev MX6_turnsToCrown 8 t' W [.ref 96, zI p0] (fun r W' => ∃ z : Int, r = some (zI z) ∧ Q (some (zI 0)) (zup W' 128 0 z)) (fun E W' => (E = "java/lang/IndexOutOfBoundsException" ∧ Q (some (zI 1)) W'))) : EvH ML_turnsToCrown hL_turnsToCrown 9 t W [.ref 96, zI p0, .ref 128] Q := by
  refine ev_ofH (ls := [.ref 96, zI p0, .ref 128, .null]) (by decide) rfl rfl (fun _ => rfl) (fun _ => Nat.le_of_ble_eq_true rfl) ?_
  refine hh_aload_n (pc := 0) dL_turnsToCrown_0 rfl ?_
  refine hh_iconst (n := 0) dL_turnsToCrown_1 ?_
  refine hh_aload_n (pc := 2) dL_turnsToCrown_2 rfl ?_
  refine hh_iload_n (pc := 3) dL_turnsToCrown_3 rfl ?_
  refine hh_inv (d' := 8) (t' := t') (M' := MX6_turnsToCrown) (k := 96) (As := [_]) (pc := 4) dL_turnsToCrown_4 lL_63 kX6_turnsToCrown vX6_turnsToCrown zk_96 (by decide) rfl (by decide) ht (Nat.le_of_ble_eq_true rfl) (Nat.le_of_ble_eq_true rfl) rfl ?_
  refine ev_mono h (fun r W2 hr => ?_) (fun E W2 hE => ?_)
  · obtain ⟨z, rfl, hq⟩ := hr
    refine hh_out (pc := 7) dL_turnsToCrown_7 dL_turnsToCrown_8 ?_
    refine hh_goto (pc := 9) (tgt := 15) dL_turnsToCrown_9 (by decide) ?_
    refine hh_iconst (n := 0) dL_turnsToCrown_15 ?_
    exact hh_reti dL_turnsToCrown_16 hq
  · obtain ⟨rfl, hq⟩ := hE
    exact ⟨[], (0, 9, 12, 25), [], "java/lang/IndexOutOfBoundsException", 1, 1, rfl, fun _ hy => absurd hy List.not_mem_nil, by decide, by decide, by decide, zcl_25, zcast_IO, Or.inl ⟨3, rfl, dL_turnsToCrown_12, by decide⟩, dL_turnsToCrown_13, dL_turnsToCrown_14, hq⟩
abbrev ML_turn : zM := (RL, cL_turn, 5, yL_turn, (some .int))
abbrev hL_turn : List (Nat × Nat × Nat × Nat) := [(0, 10, 13, 19)]
theorem dL_turn_0 : decode cL_turn 0 = .ok (.aload_n 3, 1) := by decide +kernel
theorem dL_turn_1 : decode cL_turn 1 = .ok (.iconst 0, 1) := by decide +kernel
theorem dL_turn_2 : decode cL_turn 2 = .ok (.aload_n 0, 1) := by decide +kernel
theorem dL_turn_3 : decode cL_turn 3 = .ok (.iload_n 1, 1) := by decide +kernel
theorem dL_turn_4 : decode cL_turn 4 = .ok (.iload_n 2, 1) := by decide +kernel
theorem dL_turn_5 : decode cL_turn 5 = .ok (.invokevirtual 66, 3) := by decide +kernel
theorem dL_turn_8 : decode cL_turn 8 = .ok (.i2l, 1) := by decide +kernel
theorem dL_turn_9 : decode cL_turn 9 = .ok (.lastore, 1) := by decide +kernel
theorem dL_turn_10 : decode cL_turn 10 = .ok (.goto 7, 3) := by decide +kernel
theorem dL_turn_17 : decode cL_turn 17 = .ok (.iconst 0, 1) := by decide +kernel
theorem dL_turn_18 : decode cL_turn 18 = .ok (.ireturn, 1) := by decide +kernel
theorem dL_turn_13 : decode cL_turn 13 = .ok (.astore 4, 2) := by decide +kernel
theorem dL_turn_15 : decode cL_turn 15 = .ok (.iconst 1, 1) := by decide +kernel
theorem dL_turn_16 : decode cL_turn 16 = .ok (.ireturn, 1) := by decide +kernel
theorem eL_turn {W : zWd} {t t' : Nat} {p0 p1 : Int} {Q : Option Value → zWd → Prop} (ht : t' ≤ t) (h : Ev MX6_turn 8 t' W [.ref 96, zI p0, zI p1] (fun r W' => ∃ z : Int, r = some (zI z) ∧ Q (some (zI 0)) (zup W' 128 0 z)) (fun E W' => (E = "java/lang/IllegalArgumentException" ∧ Q (some (zI 1)) W'))) : EvH ML_turn hL_turn 9 t W [.ref 96, zI p0, zI p1, .ref 128] Q := by
  refine ev_ofH (ls := [.ref 96, zI p0, zI p1, .ref 128, .null]) (by decide) rfl rfl (fun _ => rfl) (fun _ => Nat.le_of_ble_eq_true rfl) ?_
  refine hh_aload_n (pc := 0) dL_turn_0 rfl ?_
  refine hh_iconst (n := 0) dL_turn_1 ?_
  refine hh_aload_n (pc := 2) dL_turn_2 rfl ?_
  refine hh_iload_n (pc := 3) dL_turn_3 rfl ?_
  refine hh_iload_n (pc := 4) dL_turn_4 rfl ?_
  refine hh_inv (d' := 8) (t' := t') (M' := MX6_turn) (k := 96) (As := [_, _]) (pc := 5) dL_turn_5 lL_66 kX6_turn vX6_turn zk_96 (by decide) rfl (by decide) ht (Nat.le_of_ble_eq_true rfl) (Nat.le_of_ble_eq_true rfl) rfl ?_
  refine ev_mono h (fun r W2 hr => ?_) (fun E W2 hE => ?_)
  · obtain ⟨z, rfl, hq⟩ := hr
    refine hh_out (pc := 8) dL_turn_8 dL_turn_9 ?_
    refine hh_goto (pc := 10) (tgt := 17) dL_turn_10 (by decide) ?_
    refine hh_iconst (n := 0) dL_turn_17 ?_
    exact hh_reti dL_turn_18 hq
  · obtain ⟨rfl, hq⟩ := hE
    exact ⟨[], (0, 10, 13, 19), [], "java/lang/IllegalArgumentException", 1, 2, rfl, fun _ hy => absurd hy List.not_mem_nil, by decide, by decide, by decide, zcl_19, zcast_IA, Or.inr ⟨4, rfl, dL_turn_13, by decide⟩, dL_turn_15, dL_turn_16, hq⟩
abbrev ML_claim : zM := (RL, cL_claim, 5, yL_claim, (some .int))
abbrev hL_claim : List (Nat × Nat × Nat × Nat) := [(0, 10, 13, 25)]
theorem dL_claim_0 : decode cL_claim 0 = .ok (.aload_n 3, 1) := by decide +kernel
theorem dL_claim_1 : decode cL_claim 1 = .ok (.iconst 0, 1) := by decide +kernel
theorem dL_claim_2 : decode cL_claim 2 = .ok (.aload_n 0, 1) := by decide +kernel
theorem dL_claim_3 : decode cL_claim 3 = .ok (.iload_n 1, 1) := by decide +kernel
theorem dL_claim_4 : decode cL_claim 4 = .ok (.iload_n 2, 1) := by decide +kernel
theorem dL_claim_5 : decode cL_claim 5 = .ok (.invokevirtual 69, 3) := by decide +kernel
theorem dL_claim_8 : decode cL_claim 8 = .ok (.i2l, 1) := by decide +kernel
theorem dL_claim_9 : decode cL_claim 9 = .ok (.lastore, 1) := by decide +kernel
theorem dL_claim_10 : decode cL_claim 10 = .ok (.goto 7, 3) := by decide +kernel
theorem dL_claim_17 : decode cL_claim 17 = .ok (.iconst 0, 1) := by decide +kernel
theorem dL_claim_18 : decode cL_claim 18 = .ok (.ireturn, 1) := by decide +kernel
theorem dL_claim_13 : decode cL_claim 13 = .ok (.astore 4, 2) := by decide +kernel
theorem dL_claim_15 : decode cL_claim 15 = .ok (.iconst 1, 1) := by decide +kernel
theorem dL_claim_16 : decode cL_claim 16 = .ok (.ireturn, 1) := by decide +kernel
theorem eL_claim {W : zWd} {t t' : Nat} {p0 p1 : Int} {Q : Option Value → zWd → Prop} (ht : t' ≤ t) (h : Ev MX6_claim 8 t' W [.ref 96, zI p0, zI p1] (fun r W' => ∃ z : Int, r = some (zI z) ∧ Q (some (zI 0)) (zup W' 128 0 z)) (fun E W' => (E = "java/lang/IndexOutOfBoundsException" ∧ Q (some (zI 1)) W'))) : EvH ML_claim hL_claim 9 t W [.ref 96, zI p0, zI p1, .ref 128] Q := by
  refine ev_ofH (ls := [.ref 96, zI p0, zI p1, .ref 128, .null]) (by decide) rfl rfl (fun _ => rfl) (fun _ => Nat.le_of_ble_eq_true rfl) ?_
  refine hh_aload_n (pc := 0) dL_claim_0 rfl ?_
  refine hh_iconst (n := 0) dL_claim_1 ?_
  refine hh_aload_n (pc := 2) dL_claim_2 rfl ?_
  refine hh_iload_n (pc := 3) dL_claim_3 rfl ?_
  refine hh_iload_n (pc := 4) dL_claim_4 rfl ?_
  refine hh_inv (d' := 8) (t' := t') (M' := MX6_claim) (k := 96) (As := [_, _]) (pc := 5) dL_claim_5 lL_69 kX6_claim vX6_claim zk_96 (by decide) rfl (by decide) ht (Nat.le_of_ble_eq_true rfl) (Nat.le_of_ble_eq_true rfl) rfl ?_
  refine ev_mono h (fun r W2 hr => ?_) (fun E W2 hE => ?_)
  · obtain ⟨z, rfl, hq⟩ := hr
    refine hh_out (pc := 8) dL_claim_8 dL_claim_9 ?_
    refine hh_goto (pc := 10) (tgt := 17) dL_claim_10 (by decide) ?_
    refine hh_iconst (n := 0) dL_claim_17 ?_
    exact hh_reti dL_claim_18 hq
  · obtain ⟨rfl, hq⟩ := hE
    exact ⟨[], (0, 10, 13, 25), [], "java/lang/IndexOutOfBoundsException", 1, 2, rfl, fun _ hy => absurd hy List.not_mem_nil, by decide, by decide, by decide, zcl_25, zcast_IO, Or.inr ⟨4, rfl, dL_claim_13, by decide⟩, dL_claim_15, dL_claim_16, hq⟩
abbrev ML_release : zM := (RL, cL_release, 4, yL_release, (some .int))
abbrev hL_release : List (Nat × Nat × Nat × Nat) := [(0, 9, 12, 25)]
theorem dL_release_0 : decode cL_release 0 = .ok (.aload_n 2, 1) := by decide +kernel
theorem dL_release_1 : decode cL_release 1 = .ok (.iconst 0, 1) := by decide +kernel
theorem dL_release_2 : decode cL_release 2 = .ok (.aload_n 0, 1) := by decide +kernel
theorem dL_release_3 : decode cL_release 3 = .ok (.iload_n 1, 1) := by decide +kernel
theorem dL_release_4 : decode cL_release 4 = .ok (.invokevirtual 72, 3) := by decide +kernel
theorem dL_release_7 : decode cL_release 7 = .ok (.i2l, 1) := by decide +kernel
theorem dL_release_8 : decode cL_release 8 = .ok (.lastore, 1) := by decide +kernel
theorem dL_release_9 : decode cL_release 9 = .ok (.goto 6, 3) := by decide +kernel
theorem dL_release_15 : decode cL_release 15 = .ok (.iconst 0, 1) := by decide +kernel
theorem dL_release_16 : decode cL_release 16 = .ok (.ireturn, 1) := by decide +kernel
theorem dL_release_12 : decode cL_release 12 = .ok (.astore_n 3, 1) := by decide +kernel
theorem dL_release_13 : decode cL_release 13 = .ok (.iconst 1, 1) := by decide +kernel
theorem dL_release_14 : decode cL_release 14 = .ok (.ireturn, 1) := by decide +kernel
theorem eL_release {W : zWd} {t t' : Nat} {p0 : Int} {Q : Option Value → zWd → Prop} (ht : t' ≤ t) (h : Ev MX6_release 8 t' W [.ref 96, zI p0] (fun r W' => ∃ z : Int, r = some (zI z) ∧ Q (some (zI 0)) (zup W' 128 0 z)) (fun E W' => (E = "java/lang/IndexOutOfBoundsException" ∧ Q (some (zI 1)) W'))) : EvH ML_release hL_release 9 t W [.ref 96, zI p0, .ref 128] Q := by
  refine ev_ofH (ls := [.ref 96, zI p0, .ref 128, .null]) (by decide) rfl rfl (fun _ => rfl) (fun _ => Nat.le_of_ble_eq_true rfl) ?_
  refine hh_aload_n (pc := 0) dL_release_0 rfl ?_
  refine hh_iconst (n := 0) dL_release_1 ?_
  refine hh_aload_n (pc := 2) dL_release_2 rfl ?_
  refine hh_iload_n (pc := 3) dL_release_3 rfl ?_
  refine hh_inv (d' := 8) (t' := t') (M' := MX6_release) (k := 96) (As := [_]) (pc := 4) dL_release_4 lL_72 kX6_release vX6_release zk_96 (by decide) rfl (by decide) ht (Nat.le_of_ble_eq_true rfl) (Nat.le_of_ble_eq_true rfl) rfl ?_
  refine ev_mono h (fun r W2 hr => ?_) (fun E W2 hE => ?_)
  · obtain ⟨z, rfl, hq⟩ := hr
    refine hh_out (pc := 7) dL_release_7 dL_release_8 ?_
    refine hh_goto (pc := 9) (tgt := 15) dL_release_9 (by decide) ?_
    refine hh_iconst (n := 0) dL_release_15 ?_
    exact hh_reti dL_release_16 hq
  · obtain ⟨rfl, hq⟩ := hE
    exact ⟨[], (0, 9, 12, 25), [], "java/lang/IndexOutOfBoundsException", 1, 1, rfl, fun _ hy => absurd hy List.not_mem_nil, by decide, by decide, by decide, zcl_25, zcast_IO, Or.inl ⟨3, rfl, dL_release_12, by decide⟩, dL_release_13, dL_release_14, hq⟩
abbrev ML_setDrift : zM := (RL, cL_setDrift, 4, yL_setDrift, (some .int))
abbrev hL_setDrift : List (Nat × Nat × Nat × Nat) := [(0, 9, 12, 19)]
theorem dL_setDrift_0 : decode cL_setDrift 0 = .ok (.aload_n 2, 1) := by decide +kernel
theorem dL_setDrift_1 : decode cL_setDrift 1 = .ok (.iconst 0, 1) := by decide +kernel
theorem dL_setDrift_2 : decode cL_setDrift 2 = .ok (.aload_n 0, 1) := by decide +kernel
theorem dL_setDrift_3 : decode cL_setDrift 3 = .ok (.iload_n 1, 1) := by decide +kernel
theorem dL_setDrift_4 : decode cL_setDrift 4 = .ok (.invokevirtual 75, 3) := by decide +kernel
theorem dL_setDrift_7 : decode cL_setDrift 7 = .ok (.i2l, 1) := by decide +kernel
theorem dL_setDrift_8 : decode cL_setDrift 8 = .ok (.lastore, 1) := by decide +kernel
theorem dL_setDrift_9 : decode cL_setDrift 9 = .ok (.goto 6, 3) := by decide +kernel
theorem dL_setDrift_15 : decode cL_setDrift 15 = .ok (.iconst 0, 1) := by decide +kernel
theorem dL_setDrift_16 : decode cL_setDrift 16 = .ok (.ireturn, 1) := by decide +kernel
theorem dL_setDrift_12 : decode cL_setDrift 12 = .ok (.astore_n 3, 1) := by decide +kernel
theorem dL_setDrift_13 : decode cL_setDrift 13 = .ok (.iconst 1, 1) := by decide +kernel
theorem dL_setDrift_14 : decode cL_setDrift 14 = .ok (.ireturn, 1) := by decide +kernel
theorem eL_setDrift {W : zWd} {t t' : Nat} {p0 : Int} {Q : Option Value → zWd → Prop} (ht : t' ≤ t) (h : Ev MX6_setDrift 7 t' W [.ref 96, zI p0] (fun r W' => ∃ z : Int, r = some (zI z) ∧ Q (some (zI 0)) (zup W' 128 0 z)) (fun E W' => (E = "java/lang/IllegalArgumentException" ∧ Q (some (zI 1)) W'))) : EvH ML_setDrift hL_setDrift 9 t W [.ref 96, zI p0, .ref 128] Q := by
  refine ev_ofH (ls := [.ref 96, zI p0, .ref 128, .null]) (by decide) rfl rfl (fun _ => rfl) (fun _ => Nat.le_of_ble_eq_true rfl) ?_
  refine hh_aload_n (pc := 0) dL_setDrift_0 rfl ?_
  refine hh_iconst (n := 0) dL_setDrift_1 ?_
  refine hh_aload_n (pc := 2) dL_setDrift_2 rfl ?_
  refine hh_iload_n (pc := 3) dL_setDrift_3 rfl ?_
  refine hh_inv (d' := 7) (t' := t') (M' := MX6_setDrift) (k := 96) (As := [_]) (pc := 4) dL_setDrift_4 lL_75 kX6_setDrift vX6_setDrift zk_96 (by decide) rfl (by decide) ht (Nat.le_of_ble_eq_true rfl) (Nat.le_of_ble_eq_true rfl) rfl ?_
  refine ev_mono h (fun r W2 hr => ?_) (fun E W2 hE => ?_)
  · obtain ⟨z, rfl, hq⟩ := hr
    refine hh_out (pc := 7) dL_setDrift_7 dL_setDrift_8 ?_
    refine hh_goto (pc := 9) (tgt := 15) dL_setDrift_9 (by decide) ?_
    refine hh_iconst (n := 0) dL_setDrift_15 ?_
    exact hh_reti dL_setDrift_16 hq
  · obtain ⟨rfl, hq⟩ := hE
    exact ⟨[], (0, 9, 12, 19), [], "java/lang/IllegalArgumentException", 1, 1, rfl, fun _ hy => absurd hy List.not_mem_nil, by decide, by decide, by decide, zcl_19, zcast_IA, Or.inl ⟨3, rfl, dL_setDrift_12, by decide⟩, dL_setDrift_13, dL_setDrift_14, hq⟩
abbrev ML_setPlayer : zM := (RL, cL_setPlayer, 6, yL_setPlayer, (some .int))
abbrev hL_setPlayer : List (Nat × Nat × Nat × Nat) := [(0, 12, 15, 25), (0, 12, 19, 19)]
theorem dL_setPlayer_0 : decode cL_setPlayer 0 = .ok (.aload 4, 2) := by decide +kernel
theorem dL_setPlayer_2 : decode cL_setPlayer 2 = .ok (.iconst 0, 1) := by decide +kernel
theorem dL_setPlayer_3 : decode cL_setPlayer 3 = .ok (.aload_n 0, 1) := by decide +kernel
theorem dL_setPlayer_4 : decode cL_setPlayer 4 = .ok (.iload_n 1, 1) := by decide +kernel
theorem dL_setPlayer_5 : decode cL_setPlayer 5 = .ok (.iload_n 2, 1) := by decide +kernel
theorem dL_setPlayer_6 : decode cL_setPlayer 6 = .ok (.iload_n 3, 1) := by decide +kernel
theorem dL_setPlayer_7 : decode cL_setPlayer 7 = .ok (.invokevirtual 78, 3) := by decide +kernel
theorem dL_setPlayer_10 : decode cL_setPlayer 10 = .ok (.i2l, 1) := by decide +kernel
theorem dL_setPlayer_11 : decode cL_setPlayer 11 = .ok (.lastore, 1) := by decide +kernel
theorem dL_setPlayer_12 : decode cL_setPlayer 12 = .ok (.goto 11, 3) := by decide +kernel
theorem dL_setPlayer_23 : decode cL_setPlayer 23 = .ok (.iconst 0, 1) := by decide +kernel
theorem dL_setPlayer_24 : decode cL_setPlayer 24 = .ok (.ireturn, 1) := by decide +kernel
theorem dL_setPlayer_15 : decode cL_setPlayer 15 = .ok (.astore 5, 2) := by decide +kernel
theorem dL_setPlayer_17 : decode cL_setPlayer 17 = .ok (.iconst 1, 1) := by decide +kernel
theorem dL_setPlayer_18 : decode cL_setPlayer 18 = .ok (.ireturn, 1) := by decide +kernel
theorem dL_setPlayer_19 : decode cL_setPlayer 19 = .ok (.astore 5, 2) := by decide +kernel
theorem dL_setPlayer_21 : decode cL_setPlayer 21 = .ok (.iconst 2, 1) := by decide +kernel
theorem dL_setPlayer_22 : decode cL_setPlayer 22 = .ok (.ireturn, 1) := by decide +kernel
theorem eL_setPlayer {W : zWd} {t t' : Nat} {p0 p1 p2 : Int} {Q : Option Value → zWd → Prop} (ht : t' ≤ t) (h : Ev MX6_setPlayer 8 t' W [.ref 96, zI p0, zI p1, zI p2] (fun r W' => ∃ z : Int, r = some (zI z) ∧ Q (some (zI 0)) (zup W' 128 0 z)) (fun E W' => (E = "java/lang/IndexOutOfBoundsException" ∧ Q (some (zI 1)) W') ∨ (E = "java/lang/IllegalArgumentException" ∧ Q (some (zI 2)) W'))) : EvH ML_setPlayer hL_setPlayer 9 t W [.ref 96, zI p0, zI p1, zI p2, .ref 128] Q := by
  refine ev_ofH (ls := [.ref 96, zI p0, zI p1, zI p2, .ref 128, .null]) (by decide) rfl rfl (fun _ => rfl) (fun _ => Nat.le_of_ble_eq_true rfl) ?_
  refine hh_aload (pc := 0) dL_setPlayer_0 rfl ?_
  refine hh_iconst (n := 0) dL_setPlayer_2 ?_
  refine hh_aload_n (pc := 3) dL_setPlayer_3 rfl ?_
  refine hh_iload_n (pc := 4) dL_setPlayer_4 rfl ?_
  refine hh_iload_n (pc := 5) dL_setPlayer_5 rfl ?_
  refine hh_iload_n (pc := 6) dL_setPlayer_6 rfl ?_
  refine hh_inv (d' := 8) (t' := t') (M' := MX6_setPlayer) (k := 96) (As := [_, _, _]) (pc := 7) dL_setPlayer_7 lL_78 kX6_setPlayer vX6_setPlayer zk_96 (by decide) rfl (by decide) ht (Nat.le_of_ble_eq_true rfl) (Nat.le_of_ble_eq_true rfl) rfl ?_
  refine ev_mono h (fun r W2 hr => ?_) (fun E W2 hE => ?_)
  · obtain ⟨z, rfl, hq⟩ := hr
    refine hh_out (pc := 10) dL_setPlayer_10 dL_setPlayer_11 ?_
    refine hh_goto (pc := 12) (tgt := 23) dL_setPlayer_12 (by decide) ?_
    refine hh_iconst (n := 0) dL_setPlayer_23 ?_
    exact hh_reti dL_setPlayer_24 hq
  · rcases hE with ⟨rfl, hq⟩ | ⟨rfl, hq⟩
    · exact ⟨[], (0, 12, 15, 25), [(0, 12, 19, 19)], "java/lang/IndexOutOfBoundsException", 1, 2, rfl, fun _ hy => absurd hy List.not_mem_nil, by decide, by decide, by decide, zcl_25, zcast_IO, Or.inr ⟨5, rfl, dL_setPlayer_15, by decide⟩, dL_setPlayer_17, dL_setPlayer_18, hq⟩
    · exact ⟨[(0, 12, 15, 25)], (0, 12, 19, 19), [], "java/lang/IllegalArgumentException", 2, 2, rfl, fun y hy => by
        rcases List.mem_singleton.mp hy with rfl
        exact ⟨by decide, zcl_25, Or.inl rfl⟩, by decide, by decide, by decide, zcl_19, zcast_IA, Or.inr ⟨5, rfl, dL_setPlayer_19, by decide⟩, dL_setPlayer_21, dL_setPlayer_22, hq⟩
abbrev ML_mark : zM := (RL, cL_mark, 5, yL_mark, (some .int))
abbrev hL_mark : List (Nat × Nat × Nat × Nat) := [(0, 10, 13, 25)]
theorem dL_mark_0 : decode cL_mark 0 = .ok (.aload_n 3, 1) := by decide +kernel
theorem dL_mark_1 : decode cL_mark 1 = .ok (.iconst 0, 1) := by decide +kernel
theorem dL_mark_2 : decode cL_mark 2 = .ok (.aload_n 0, 1) := by decide +kernel
theorem dL_mark_3 : decode cL_mark 3 = .ok (.iload_n 1, 1) := by decide +kernel
theorem dL_mark_4 : decode cL_mark 4 = .ok (.iload_n 2, 1) := by decide +kernel
theorem dL_mark_5 : decode cL_mark 5 = .ok (.invokevirtual 81, 3) := by decide +kernel
theorem dL_mark_8 : decode cL_mark 8 = .ok (.i2l, 1) := by decide +kernel
theorem dL_mark_9 : decode cL_mark 9 = .ok (.lastore, 1) := by decide +kernel
theorem dL_mark_10 : decode cL_mark 10 = .ok (.goto 7, 3) := by decide +kernel
theorem dL_mark_17 : decode cL_mark 17 = .ok (.iconst 0, 1) := by decide +kernel
theorem dL_mark_18 : decode cL_mark 18 = .ok (.ireturn, 1) := by decide +kernel
theorem dL_mark_13 : decode cL_mark 13 = .ok (.astore 4, 2) := by decide +kernel
theorem dL_mark_15 : decode cL_mark 15 = .ok (.iconst 1, 1) := by decide +kernel
theorem dL_mark_16 : decode cL_mark 16 = .ok (.ireturn, 1) := by decide +kernel
theorem eL_mark {W : zWd} {t t' : Nat} {p0 p1 : Int} {Q : Option Value → zWd → Prop} (ht : t' ≤ t) (h : Ev MX6_mark 8 t' W [.ref 96, zI p0, zI p1] (fun r W' => ∃ z : Int, r = some (zI z) ∧ Q (some (zI 0)) (zup W' 128 0 z)) (fun E W' => (E = "java/lang/IndexOutOfBoundsException" ∧ Q (some (zI 1)) W'))) : EvH ML_mark hL_mark 9 t W [.ref 96, zI p0, zI p1, .ref 128] Q := by
  refine ev_ofH (ls := [.ref 96, zI p0, zI p1, .ref 128, .null]) (by decide) rfl rfl (fun _ => rfl) (fun _ => Nat.le_of_ble_eq_true rfl) ?_
  refine hh_aload_n (pc := 0) dL_mark_0 rfl ?_
  refine hh_iconst (n := 0) dL_mark_1 ?_
  refine hh_aload_n (pc := 2) dL_mark_2 rfl ?_
  refine hh_iload_n (pc := 3) dL_mark_3 rfl ?_
  refine hh_iload_n (pc := 4) dL_mark_4 rfl ?_
  refine hh_inv (d' := 8) (t' := t') (M' := MX6_mark) (k := 96) (As := [_, _]) (pc := 5) dL_mark_5 lL_81 kX6_mark vX6_mark zk_96 (by decide) rfl (by decide) ht (Nat.le_of_ble_eq_true rfl) (Nat.le_of_ble_eq_true rfl) rfl ?_
  refine ev_mono h (fun r W2 hr => ?_) (fun E W2 hE => ?_)
  · obtain ⟨z, rfl, hq⟩ := hr
    refine hh_out (pc := 8) dL_mark_8 dL_mark_9 ?_
    refine hh_goto (pc := 10) (tgt := 17) dL_mark_10 (by decide) ?_
    refine hh_iconst (n := 0) dL_mark_17 ?_
    exact hh_reti dL_mark_18 hq
  · obtain ⟨rfl, hq⟩ := hE
    exact ⟨[], (0, 10, 13, 25), [], "java/lang/IndexOutOfBoundsException", 1, 2, rfl, fun _ hy => absurd hy List.not_mem_nil, by decide, by decide, by decide, zcl_25, zcast_IO, Or.inr ⟨4, rfl, dL_mark_13, by decide⟩, dL_mark_15, dL_mark_16, hq⟩
abbrev ML_undo : zM := (RL, cL_undo, 3, yL_undo, (some .int))
abbrev hL_undo : List (Nat × Nat × Nat × Nat) := [(0, 8, 11, 13)]
theorem dL_undo_0 : decode cL_undo 0 = .ok (.aload_n 1, 1) := by decide +kernel
theorem dL_undo_1 : decode cL_undo 1 = .ok (.iconst 0, 1) := by decide +kernel
theorem dL_undo_2 : decode cL_undo 2 = .ok (.aload_n 0, 1) := by decide +kernel
theorem dL_undo_3 : decode cL_undo 3 = .ok (.invokevirtual 84, 3) := by decide +kernel
theorem dL_undo_6 : decode cL_undo 6 = .ok (.i2l, 1) := by decide +kernel
theorem dL_undo_7 : decode cL_undo 7 = .ok (.lastore, 1) := by decide +kernel
theorem dL_undo_8 : decode cL_undo 8 = .ok (.goto 6, 3) := by decide +kernel
theorem dL_undo_14 : decode cL_undo 14 = .ok (.iconst 0, 1) := by decide +kernel
theorem dL_undo_15 : decode cL_undo 15 = .ok (.ireturn, 1) := by decide +kernel
theorem dL_undo_11 : decode cL_undo 11 = .ok (.astore_n 2, 1) := by decide +kernel
theorem dL_undo_12 : decode cL_undo 12 = .ok (.iconst 1, 1) := by decide +kernel
theorem dL_undo_13 : decode cL_undo 13 = .ok (.ireturn, 1) := by decide +kernel
theorem eL_undo {W : zWd} {t t' : Nat} {Q : Option Value → zWd → Prop} (ht : t' ≤ t) (h : Ev MX6_undo 7 t' W [.ref 96] (fun r W' => ∃ z : Int, r = some (zI z) ∧ Q (some (zI 0)) (zup W' 128 0 z)) (fun E W' => (E = "java/lang/IllegalStateException" ∧ Q (some (zI 1)) W'))) : EvH ML_undo hL_undo 9 t W [.ref 96, .ref 128] Q := by
  refine ev_ofH (ls := [.ref 96, .ref 128, .null]) (by decide) rfl rfl (fun _ => rfl) (fun _ => Nat.le_of_ble_eq_true rfl) ?_
  refine hh_aload_n (pc := 0) dL_undo_0 rfl ?_
  refine hh_iconst (n := 0) dL_undo_1 ?_
  refine hh_aload_n (pc := 2) dL_undo_2 rfl ?_
  refine hh_inv (d' := 7) (t' := t') (M' := MX6_undo) (k := 96) (As := []) (pc := 3) dL_undo_3 lL_84 kX6_undo vX6_undo zk_96 (by decide) rfl (by decide) ht (Nat.le_of_ble_eq_true rfl) (Nat.le_of_ble_eq_true rfl) rfl ?_
  refine ev_mono h (fun r W2 hr => ?_) (fun E W2 hE => ?_)
  · obtain ⟨z, rfl, hq⟩ := hr
    refine hh_out (pc := 6) dL_undo_6 dL_undo_7 ?_
    refine hh_goto (pc := 8) (tgt := 14) dL_undo_8 (by decide) ?_
    refine hh_iconst (n := 0) dL_undo_14 ?_
    exact hh_reti dL_undo_15 hq
  · obtain ⟨rfl, hq⟩ := hE
    exact ⟨[], (0, 8, 11, 13), [], "java/lang/IllegalStateException", 1, 1, rfl, fun _ hy => absurd hy List.not_mem_nil, by decide, by decide, by decide, zcl_13, zcast_IS, Or.inl ⟨2, rfl, dL_undo_11, by decide⟩, dL_undo_12, dL_undo_13, hq⟩
abbrev ML_save : zM := (RL, cL_save, 3, yL_save, (some .int))
abbrev hL_save : List (Nat × Nat × Nat × Nat) := [(0, 5, 8, 25)]
theorem dL_save_0 : decode cL_save 0 = .ok (.aload_n 0, 1) := by decide +kernel
theorem dL_save_1 : decode cL_save 1 = .ok (.iload_n 1, 1) := by decide +kernel
theorem dL_save_2 : decode cL_save 2 = .ok (.invokevirtual 88, 3) := by decide +kernel
theorem dL_save_5 : decode cL_save 5 = .ok (.goto 6, 3) := by decide +kernel
theorem dL_save_11 : decode cL_save 11 = .ok (.iconst 0, 1) := by decide +kernel
theorem dL_save_12 : decode cL_save 12 = .ok (.ireturn, 1) := by decide +kernel
theorem dL_save_8 : decode cL_save 8 = .ok (.astore_n 2, 1) := by decide +kernel
theorem dL_save_9 : decode cL_save 9 = .ok (.iconst 1, 1) := by decide +kernel
theorem dL_save_10 : decode cL_save 10 = .ok (.ireturn, 1) := by decide +kernel
theorem eL_save {W : zWd} {t t' : Nat} {p0 : Int} {Q : Option Value → zWd → Prop} (ht : t' ≤ t) (h : Ev MX6_save 8 t' W [.ref 96, zI p0] (fun r W' => r = none ∧ Q (some (zI 0)) W') (fun E W' => (E = "java/lang/IndexOutOfBoundsException" ∧ Q (some (zI 1)) W'))) : EvH ML_save hL_save 9 t W [.ref 96, zI p0] Q := by
  refine ev_ofH (ls := [.ref 96, zI p0, .null]) (by decide) rfl rfl (fun _ => rfl) (fun _ => Nat.le_of_ble_eq_true rfl) ?_
  refine hh_aload_n (pc := 0) dL_save_0 rfl ?_
  refine hh_iload_n (pc := 1) dL_save_1 rfl ?_
  refine hh_inv (d' := 8) (t' := t') (M' := MX6_save) (k := 96) (As := [_]) (pc := 2) dL_save_2 lL_88 kX6_save vX6_save zk_96 (by decide) rfl (by decide) ht (Nat.le_of_ble_eq_true rfl) (Nat.le_of_ble_eq_true rfl) rfl ?_
  refine ev_mono h (fun r W2 hr => ?_) (fun E W2 hE => ?_)
  · obtain ⟨rfl, hq⟩ := hr
    refine hh_goto (pc := 5) (tgt := 11) dL_save_5 (by decide) ?_
    refine hh_iconst (n := 0) dL_save_11 ?_
    exact hh_reti dL_save_12 hq
  · obtain ⟨rfl, hq⟩ := hE
    exact ⟨[], (0, 5, 8, 25), [], "java/lang/IndexOutOfBoundsException", 1, 1, rfl, fun _ hy => absurd hy List.not_mem_nil, by decide, by decide, by decide, zcl_25, zcast_IO, Or.inl ⟨2, rfl, dL_save_8, by decide⟩, dL_save_9, dL_save_10, hq⟩
abbrev ML_restore : zM := (RL, cL_restore, 4, yL_restore, (some .int))
abbrev hL_restore : List (Nat × Nat × Nat × Nat) := [(0, 9, 12, 25), (0, 9, 15, 13)]
theorem dL_restore_0 : decode cL_restore 0 = .ok (.aload_n 2, 1) := by decide +kernel
theorem dL_restore_1 : decode cL_restore 1 = .ok (.iconst 0, 1) := by decide +kernel
theorem dL_restore_2 : decode cL_restore 2 = .ok (.aload_n 0, 1) := by decide +kernel
theorem dL_restore_3 : decode cL_restore 3 = .ok (.iload_n 1, 1) := by decide +kernel
theorem dL_restore_4 : decode cL_restore 4 = .ok (.invokevirtual 92, 3) := by decide +kernel
theorem dL_restore_7 : decode cL_restore 7 = .ok (.i2l, 1) := by decide +kernel
theorem dL_restore_8 : decode cL_restore 8 = .ok (.lastore, 1) := by decide +kernel
theorem dL_restore_9 : decode cL_restore 9 = .ok (.goto 9, 3) := by decide +kernel
theorem dL_restore_18 : decode cL_restore 18 = .ok (.iconst 0, 1) := by decide +kernel
theorem dL_restore_19 : decode cL_restore 19 = .ok (.ireturn, 1) := by decide +kernel
theorem dL_restore_12 : decode cL_restore 12 = .ok (.astore_n 3, 1) := by decide +kernel
theorem dL_restore_13 : decode cL_restore 13 = .ok (.iconst 1, 1) := by decide +kernel
theorem dL_restore_14 : decode cL_restore 14 = .ok (.ireturn, 1) := by decide +kernel
theorem dL_restore_15 : decode cL_restore 15 = .ok (.astore_n 3, 1) := by decide +kernel
theorem dL_restore_16 : decode cL_restore 16 = .ok (.iconst 2, 1) := by decide +kernel
theorem dL_restore_17 : decode cL_restore 17 = .ok (.ireturn, 1) := by decide +kernel
theorem eL_restore {W : zWd} {t t' : Nat} {p0 : Int} {Q : Option Value → zWd → Prop} (ht : t' ≤ t) (h : Ev MX6_restore 8 t' W [.ref 96, zI p0] (fun r W' => ∃ z : Int, r = some (zI z) ∧ Q (some (zI 0)) (zup W' 128 0 z)) (fun E W' => (E = "java/lang/IndexOutOfBoundsException" ∧ Q (some (zI 1)) W') ∨ (E = "java/lang/IllegalStateException" ∧ Q (some (zI 2)) W'))) : EvH ML_restore hL_restore 9 t W [.ref 96, zI p0, .ref 128] Q := by
  refine ev_ofH (ls := [.ref 96, zI p0, .ref 128, .null]) (by decide) rfl rfl (fun _ => rfl) (fun _ => Nat.le_of_ble_eq_true rfl) ?_
  refine hh_aload_n (pc := 0) dL_restore_0 rfl ?_
  refine hh_iconst (n := 0) dL_restore_1 ?_
  refine hh_aload_n (pc := 2) dL_restore_2 rfl ?_
  refine hh_iload_n (pc := 3) dL_restore_3 rfl ?_
  refine hh_inv (d' := 8) (t' := t') (M' := MX6_restore) (k := 96) (As := [_]) (pc := 4) dL_restore_4 lL_92 kX6_restore vX6_restore zk_96 (by decide) rfl (by decide) ht (Nat.le_of_ble_eq_true rfl) (Nat.le_of_ble_eq_true rfl) rfl ?_
  refine ev_mono h (fun r W2 hr => ?_) (fun E W2 hE => ?_)
  · obtain ⟨z, rfl, hq⟩ := hr
    refine hh_out (pc := 7) dL_restore_7 dL_restore_8 ?_
    refine hh_goto (pc := 9) (tgt := 18) dL_restore_9 (by decide) ?_
    refine hh_iconst (n := 0) dL_restore_18 ?_
    exact hh_reti dL_restore_19 hq
  · rcases hE with ⟨rfl, hq⟩ | ⟨rfl, hq⟩
    · exact ⟨[], (0, 9, 12, 25), [(0, 9, 15, 13)], "java/lang/IndexOutOfBoundsException", 1, 1, rfl, fun _ hy => absurd hy List.not_mem_nil, by decide, by decide, by decide, zcl_25, zcast_IO, Or.inl ⟨3, rfl, dL_restore_12, by decide⟩, dL_restore_13, dL_restore_14, hq⟩
    · exact ⟨[(0, 9, 12, 25)], (0, 9, 15, 13), [], "java/lang/IllegalStateException", 2, 1, rfl, fun y hy => by
        rcases List.mem_singleton.mp hy with rfl
        exact ⟨by decide, zcl_25, Or.inr rfl⟩, by decide, by decide, by decide, zcl_13, zcast_IS, Or.inl ⟨3, rfl, dL_restore_15, by decide⟩, dL_restore_16, dL_restore_17, hq⟩
abbrev ML_writtenByte : zM := (RL, cL_writtenByte, 4, yL_writtenByte, (some .int))
abbrev hL_writtenByte : List (Nat × Nat × Nat × Nat) := [(0, 9, 12, 25)]
theorem dL_writtenByte_0 : decode cL_writtenByte 0 = .ok (.aload_n 2, 1) := by decide +kernel
theorem dL_writtenByte_1 : decode cL_writtenByte 1 = .ok (.iconst 0, 1) := by decide +kernel
theorem dL_writtenByte_2 : decode cL_writtenByte 2 = .ok (.aload_n 0, 1) := by decide +kernel
theorem dL_writtenByte_3 : decode cL_writtenByte 3 = .ok (.iload_n 1, 1) := by decide +kernel
theorem dL_writtenByte_4 : decode cL_writtenByte 4 = .ok (.invokevirtual 95, 3) := by decide +kernel
theorem dL_writtenByte_7 : decode cL_writtenByte 7 = .ok (.i2l, 1) := by decide +kernel
theorem dL_writtenByte_8 : decode cL_writtenByte 8 = .ok (.lastore, 1) := by decide +kernel
theorem dL_writtenByte_9 : decode cL_writtenByte 9 = .ok (.goto 6, 3) := by decide +kernel
theorem dL_writtenByte_15 : decode cL_writtenByte 15 = .ok (.iconst 0, 1) := by decide +kernel
theorem dL_writtenByte_16 : decode cL_writtenByte 16 = .ok (.ireturn, 1) := by decide +kernel
theorem dL_writtenByte_12 : decode cL_writtenByte 12 = .ok (.astore_n 3, 1) := by decide +kernel
theorem dL_writtenByte_13 : decode cL_writtenByte 13 = .ok (.iconst 1, 1) := by decide +kernel
theorem dL_writtenByte_14 : decode cL_writtenByte 14 = .ok (.ireturn, 1) := by decide +kernel
theorem eL_writtenByte {W : zWd} {t t' : Nat} {p0 : Int} {Q : Option Value → zWd → Prop} (ht : t' ≤ t) (h : Ev MX6_writtenByte 7 t' W [.ref 96, zI p0] (fun r W' => ∃ z : Int, r = some (zI z) ∧ Q (some (zI 0)) (zup W' 128 0 z)) (fun E W' => (E = "java/lang/IndexOutOfBoundsException" ∧ Q (some (zI 1)) W'))) : EvH ML_writtenByte hL_writtenByte 9 t W [.ref 96, zI p0, .ref 128] Q := by
  refine ev_ofH (ls := [.ref 96, zI p0, .ref 128, .null]) (by decide) rfl rfl (fun _ => rfl) (fun _ => Nat.le_of_ble_eq_true rfl) ?_
  refine hh_aload_n (pc := 0) dL_writtenByte_0 rfl ?_
  refine hh_iconst (n := 0) dL_writtenByte_1 ?_
  refine hh_aload_n (pc := 2) dL_writtenByte_2 rfl ?_
  refine hh_iload_n (pc := 3) dL_writtenByte_3 rfl ?_
  refine hh_inv (d' := 7) (t' := t') (M' := MX6_writtenByte) (k := 96) (As := [_]) (pc := 4) dL_writtenByte_4 lL_95 kX6_writtenByte vX6_writtenByte zk_96 (by decide) rfl (by decide) ht (Nat.le_of_ble_eq_true rfl) (Nat.le_of_ble_eq_true rfl) rfl ?_
  refine ev_mono h (fun r W2 hr => ?_) (fun E W2 hE => ?_)
  · obtain ⟨z, rfl, hq⟩ := hr
    refine hh_out (pc := 7) dL_writtenByte_7 dL_writtenByte_8 ?_
    refine hh_goto (pc := 9) (tgt := 15) dL_writtenByte_9 (by decide) ?_
    refine hh_iconst (n := 0) dL_writtenByte_15 ?_
    exact hh_reti dL_writtenByte_16 hq
  · obtain ⟨rfl, hq⟩ := hE
    exact ⟨[], (0, 9, 12, 25), [], "java/lang/IndexOutOfBoundsException", 1, 1, rfl, fun _ hy => absurd hy List.not_mem_nil, by decide, by decide, by decide, zcl_25, zcast_IO, Or.inl ⟨3, rfl, dL_writtenByte_12, by decide⟩, dL_writtenByte_13, dL_writtenByte_14, hq⟩
