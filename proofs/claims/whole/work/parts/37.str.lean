/-! STRINGS: the literals, by ids 1000 + i; their arrays 1100 + i; 1200 a thing that nobody looks at -/
section ZH
variable {M M' : zM} {d d' t : Nat} {W₀ : zWd} {pc : Nat} {ls st : List Value} {K : zK} {X : zX} {i index n : Nat} {q : String × Nat × String × List Int} {As : List Value}
theorem rr_sV (hq : zStrs[i]? = some q) (hd : decode M.2.1 pc = .ok (.getfield index, 3)) (hl : Cond.fieldLink M.1 index "java/lang/String" "value" "[B" ∈ zWs) (kk : RR M d t W₀ (pc + 3) ls (.ref (1100 + i) :: st) K X) : RR M d t W₀ pc ls (.ref (1000 + i) :: st) K X := by
  intro p l e R s m args below meth c cells slots Q D Y ad A hC hK hX H locs lsA hP hS hlv
  obtain ⟨⟨h1, h2, h3, h4, h5⟩, c2, c3, c4, c5, c6, c7⟩ := id hC
  exact vk_getf h1 h2 (c6.2.2.2.2.1 i q hq).2.2.2.1 hS h4 (h5 _ (List.mem_cons_of_mem _ hl)) (fun _ h => h) hd (kk p l e R s m args below meth c cells slots Q D Y ad A hC hK hX H locs lsA hP hS hlv)
theorem rr_sC (hq : zStrs[i]? = some q) (hd : decode M.2.1 pc = .ok (.getfield index, 3)) (hl : Cond.fieldLink M.1 index "java/lang/String" "coder" "B" ∈ zWs) (kk : RR M d t W₀ (pc + 3) ls (zI 0 :: st) K X) : RR M d t W₀ pc ls (.ref (1000 + i) :: st) K X := by
  intro p l e R s m args below meth c cells slots Q D Y ad A hC hK hX H locs lsA hP hS hlv
  obtain ⟨⟨h1, h2, h3, h4, h5⟩, c2, c3, c4, c5, c6, c7⟩ := id hC
  exact vk_getf h1 h2 (c6.2.2.2.2.1 i q hq).2.2.1 hS h4 (h5 _ (List.mem_cons_of_mem _ hl)) (fun _ h => h) hd (kk p l e R s m args below meth c cells slots Q D Y ad A hC hK hX H locs lsA hP hS hlv)
theorem rr_gsC (hd : decode M.2.1 pc = .ok (.getstatic index, 3)) (hl : Cond.fieldLink M.1 index "java/lang/String" "COMPACT_STRINGS" "Z" ∈ zWs) (kk : RR M d t W₀ (pc + 3) ls (zI 1 :: st) K X) : RR M d t W₀ pc ls st K X := by
  intro p l e R s m args below meth c cells slots Q D Y ad A hC hK hX H locs lsA hP hS hlv
  obtain ⟨⟨h1, h2, h3, h4, h5⟩, c2, c3, c4, c5, c6, c7⟩ := id hC
  exact va_gets h1 h2 c6.2.2.2.2.2.1 hS h4 (h5 _ (List.mem_cons_of_mem _ hl)) (fun _ h => h) hd (kk p l e R s m args below meth c cells slots Q D Y ad A hC hK hX H locs lsA hP hS hlv)
theorem rr_gsF (hd : decode M.2.1 pc = .ok (.getstatic index, 3)) (hl : Cond.fieldLink M.1 index "jdk/internal/util/Preconditions" "SIOOBE_FORMATTER" "Ljava/util/function/BiFunction;" ∈ zWs) (kk : RR M d t W₀ (pc + 3) ls (.ref 1200 :: st) K X) (kk2 : RR M d t W₀ (pc + 3) ls (.null :: st) K X) : RR M d t W₀ pc ls st K X := by
  intro p l e R s m args below meth c cells slots Q D Y ad A hC hK hX H locs lsA hP hS hlv
  obtain ⟨⟨h1, h2, h3, h4, h5⟩, c2, c3, c4, c5, c6, c7⟩ := id hC
  rcases c6.2.2.2.2.2.2 with h9 | h9
  · exact va_gets h1 h2 h9 hS h4 (h5 _ (List.mem_cons_of_mem _ hl)) (fun _ h => h) hd (kk p l e R s m args below meth c cells slots Q D Y ad A hC hK hX H locs lsA hP hS hlv)
  · exact va_gets h1 h2 h9 hS h4 (h5 _ (List.mem_cons_of_mem _ hl)) (fun _ h => h) hd (kk2 p l e R s m args below meth c cells slots Q D Y ad A hC hK hX H locs lsA hP hS hlv)
theorem rr_slen (hq : zStrs[i]? = some q) (hd : decode M.2.1 pc = .ok (.arraylength, 1)) (kk : RR M d t W₀ (pc + 1) ls (zI (q.2.2.2.length : Nat) :: st) K X) : RR M d t W₀ pc ls (.ref (1100 + i) :: st) K X := by
  intro p l e R s m args below meth c cells slots Q D Y ad A hC hK hX H locs lsA hP hS hlv
  obtain ⟨⟨h1, h2, h3, h4, h5⟩, c2, c3, c4, c5, c6, c7⟩ := id hC
  exact va_tlen h1 h2 (c6.2.2.2.2.1 i q hq).2.2.2.2 hS (v := Int32.ofInt (q.2.2.2.length : Nat)) rfl hd (kk p l e R s m args below meth c cells slots Q D Y ad A hC hK hX H locs lsA hP hS hlv)
theorem rr_sbald {j : Int} (hq : zStrs[i]? = some q) (hd : decode M.2.1 pc = .ok (.baload, 1)) (h0 : 0 ≤ j) (h1 : j < q.2.2.2.length) (hn : q.2.2.2.length < 1000) (kk : RR M d t W₀ (pc + 1) ls (zI (q.2.2.2.getD j.toNat 0) :: st) K X) : RR M d t W₀ pc ls (zI j :: .ref (1100 + i) :: st) K X := by
  intro p l e R s m args below meth c cells slots Q D Y ad A hC hK hX H locs lsA hP hS hlv
  obtain ⟨⟨g1, g2, g3, g4, g5⟩, c2, c3, c4, c5, c6, c7⟩ := id hC
  exact va_tb g1 g2 (c6.2.2.2.2.1 i q hq).2.2.2.2 hS (z_in h0 h1 (by omega)) (v := .int (Int32.ofInt (q.2.2.2.getD j.toNat 0))) (by rw [z_clamp h0 (by omega)]) hd (kk p l e R s m args below meth c cells slots Q D Y ad A hC hK hX H locs lsA hP hS hlv)
theorem z_chr {a : Int} (h0 : 0 ≤ a) (h1 : a < 128) : ((Int32.ofInt a).toUInt32 % 65536).toInt32 = Int32.ofInt a ∧ narrow .char (zI a) = zI a := by
  have h : ∀ n : Nat, n < 128 → ((Int32.ofInt (n : Int)).toUInt32 % 65536).toInt32 = Int32.ofInt (n : Int) ∧ narrow .char (zI (n : Int)) = zI (n : Int) := by decide +kernel
  have h9 := h a.toNat (by omega)
  rw [show ((a.toNat : Nat) : Int) = a by omega] at h9
  exact h9
theorem rr_i2c {a : Int} (hd : decode M.2.1 pc = .ok (.i2c, 1)) (h0 : 0 ≤ a) (h1 : a < 128) (kk : RR M d t W₀ (pc + 1) ls (zI a :: st) K X) : RR M d t W₀ pc ls (zI a :: st) K X := by
  intro p l e R s m args below meth c cells slots Q D Y ad A hC hK hX H locs lsA hP hS hlv
  obtain ⟨⟨g1, g2, g3, g4, g5⟩, c2, c3, c4, c5, c6, c7⟩ := id hC
  exact lv_i2c g1 g2 hd (z_chr h0 h1).1 (kk p l e R s m args below meth c cells slots Q D Y ad A hC hK hX H locs lsA hP hS hlv)
/-- a call on a literal -/
theorem rr_invS (hq : zStrs[i]? = some q) (hd : decode M.2.1 pc = .ok (.invokevirtual index, 3)) (hl : Cond.methodLink M.1 index M'.2.2.2.1 ∈ zWs) (hcm : zCm M' n) (hvm : zVm M') (hm : M'.1 = "java/lang/String") (hdd : d' + 1 ≤ d) (hlo : M'.2.2.1 ≤ 21) (hst : (st.map fun v => v.category).sum ≤ 8) (hn : As.length = n)
    (hE : Ev M' d' 0 W₀ (.ref (1000 + i) :: As) (fun r W' => RR M d t W' (pc + 3) ls (r.toList ++ st) K X) X) : RR M d t W₀ pc ls (As.reverse ++ .ref (1000 + i) :: st) K X := by
  intro p l e R s m args below meth c cells slots Q D Y ad A hC hK hX H locs lsA hP hS hlv
  obtain ⟨⟨h1, h2, h3, h4, h5⟩, c2, c3, c4, c5, c6, c7, c8, c9, c10, c11, c12⟩ := id hC
  refine z_go (t' := 0) (Nat.zero_le _) hC hK hX hS hlv (a := (Value.ref (ad (1000 + i)) :: zts ad As).toArray) (st := st) ?_
  refine vx_runV (C := M'.1) (n := n) (bytes := M'.2.1) (maxL := M'.2.2.1) (ret := M'.2.2.2.2) (As := zts ad As) (b := ad (1000 + i)) ⟨h1, h2, h3, h4, h5⟩ (hE l D Y ad A c2 c7) ⟨z_callB h5 hcm hl (by omega) (by omega), h5 _ (List.mem_cons_of_mem _ hvm.1), h5 _ (List.mem_cons_of_mem _ hvm.2)⟩ ⟨zBlind, ?_, fun U hU hW => ?_⟩ rfl (by rw [zts_len]; exact hn) hlv.1 ?_ (lv_room (by rw [zts_cat]; exact hst)) hd ⟨by omega, by omega⟩
  · obtain ⟨cell, g1, g2, g3, -⟩ := (c6.2.2.2.2.1 i q hq).2.1.kept hS.2.1
    exact ⟨cell, g1, g2, by rw [hm]; exact g3⟩
  · exact zE_warm (args := .ref (1000 + i) :: As) hU hW hS c6 hP c8
  · show zts ad (As.reverse ++ .ref (1000 + i) :: st) = _
    rw [zts_app, zts_rev]; rfl
end ZH
theorem gJ0_9 : Cond.fieldLink RJ0 9 "java/lang/String" "value" "[B" ∈ zWs := zWs_in 1600 (by decide +kernel) rfl
theorem gJ0_15 : Cond.fieldLink RJ0 15 "java/lang/String" "coder" "B" ∈ zWs := zWs_in 1601 (by decide +kernel) rfl
theorem gJ0_38 : Cond.fieldLink RJ0 38 "java/lang/String" "COMPACT_STRINGS" "Z" ∈ zWs := zWs_in 445 (by decide +kernel) rfl
theorem gJ0_1053 : Cond.fieldLink RJ0 1053 "jdk/internal/util/Preconditions" "SIOOBE_FORMATTER" "Ljava/util/function/BiFunction;" ∈ zWs := zWs_in 461 (by decide +kernel) rfl
theorem dJ0_coder_7d493_0 : decode cJ0_coder_7d493 0 = .ok (.getstatic 38, 3) := by decide +kernel
theorem dJ0_coder_7d493_3 : decode cJ0_coder_7d493 3 = .ok (.ifCond .eq 10, 3) := by decide +kernel
theorem dJ0_coder_7d493_6 : decode cJ0_coder_7d493 6 = .ok (.aload_n 0, 1) := by decide +kernel
theorem dJ0_coder_7d493_7 : decode cJ0_coder_7d493 7 = .ok (.getfield 15, 3) := by decide +kernel
theorem dJ0_coder_7d493_10 : decode cJ0_coder_7d493 10 = .ok (.goto 4, 3) := by decide +kernel
theorem dJ0_coder_7d493_13 : decode cJ0_coder_7d493 13 = .ok (.iconst 1, 1) := by decide +kernel
theorem dJ0_coder_7d493_14 : decode cJ0_coder_7d493 14 = .ok (.ireturn, 1) := by decide +kernel
theorem eJ0_coder_7d493 {W : zWd} {i : Nat} {q : String × Nat × String × List Int} {Q : Option Value → zWd → Prop} {X : zX} (hs : zStrs[i]? = some q) (hq : Q (some (zI 0)) W) : Ev MJ0_coder_7d493 0 0 W [.ref (1000 + i)] Q X := by
  refine ev_of (ls := [.ref (1000 + i)]) (by decide) rfl (fun _ => rfl) (fun _ => Nat.le_of_ble_eq_true rfl) (Or.inl rfl) ?_
  refine rr_gsC dJ0_coder_7d493_0 gJ0_38 ?_
  refine rr_if_eq (pc := 3) (tgt := 13) dJ0_coder_7d493_3 (by decide) (by unfold zR; omega) (fun h => absurd h (by decide)) (fun _ => ?_)
  refine rr_aload_n (pc := 6) dJ0_coder_7d493_6 rfl ?_
  refine rr_sC (pc := 7) hs dJ0_coder_7d493_7 gJ0_15 ?_
  refine rr_goto (pc := 10) (tgt := 14) dJ0_coder_7d493_10 (by decide) ?_
  exact rr_reti (pc := 14) dJ0_coder_7d493_14 rfl rfl rfl rfl hq
theorem dJ0_isLatin1_aae02_0 : decode cJ0_isLatin1_aae02 0 = .ok (.getstatic 38, 3) := by decide +kernel
theorem dJ0_isLatin1_aae02_3 : decode cJ0_isLatin1_aae02 3 = .ok (.ifCond .eq 14, 3) := by decide +kernel
theorem dJ0_isLatin1_aae02_6 : decode cJ0_isLatin1_aae02 6 = .ok (.aload_n 0, 1) := by decide +kernel
theorem dJ0_isLatin1_aae02_7 : decode cJ0_isLatin1_aae02 7 = .ok (.getfield 15, 3) := by decide +kernel
theorem dJ0_isLatin1_aae02_10 : decode cJ0_isLatin1_aae02 10 = .ok (.ifCond .ne 7, 3) := by decide +kernel
theorem dJ0_isLatin1_aae02_13 : decode cJ0_isLatin1_aae02 13 = .ok (.iconst 1, 1) := by decide +kernel
theorem dJ0_isLatin1_aae02_14 : decode cJ0_isLatin1_aae02 14 = .ok (.goto 4, 3) := by decide +kernel
theorem dJ0_isLatin1_aae02_17 : decode cJ0_isLatin1_aae02 17 = .ok (.iconst 0, 1) := by decide +kernel
theorem dJ0_isLatin1_aae02_18 : decode cJ0_isLatin1_aae02 18 = .ok (.ireturn, 1) := by decide +kernel
theorem eJ0_isLatin1_aae02 {W : zWd} {i : Nat} {q : String × Nat × String × List Int} {Q : Option Value → zWd → Prop} {X : zX} (hs : zStrs[i]? = some q) (hq : Q (some (zI 1)) W) : Ev MJ0_isLatin1_aae02 0 0 W [.ref (1000 + i)] Q X := by
  refine ev_of (ls := [.ref (1000 + i)]) (by decide) rfl (fun _ => rfl) (fun _ => Nat.le_of_ble_eq_true rfl) (Or.inl rfl) ?_
  refine rr_gsC dJ0_isLatin1_aae02_0 gJ0_38 ?_
  refine rr_if_eq (pc := 3) (tgt := 17) dJ0_isLatin1_aae02_3 (by decide) (by unfold zR; omega) (fun h => absurd h (by decide)) (fun _ => ?_)
  refine rr_aload_n (pc := 6) dJ0_isLatin1_aae02_6 rfl ?_
  refine rr_sC (pc := 7) hs dJ0_isLatin1_aae02_7 gJ0_15 ?_
  refine rr_if_ne (pc := 10) (tgt := 17) dJ0_isLatin1_aae02_10 (by decide) (by unfold zR; omega) (fun h => absurd rfl h) (fun _ => ?_)
  refine rr_iconst (n := 1) dJ0_isLatin1_aae02_13 ?_
  refine rr_goto (pc := 14) (tgt := 18) dJ0_isLatin1_aae02_14 (by decide) ?_
  exact rr_reti (pc := 18) dJ0_isLatin1_aae02_18 rfl rfl rfl rfl hq
theorem dJ0_length_8abf5_0 : decode cJ0_length_8abf5 0 = .ok (.aload_n 0, 1) := by decide +kernel
theorem dJ0_length_8abf5_1 : decode cJ0_length_8abf5 1 = .ok (.getfield 9, 3) := by decide +kernel
theorem dJ0_length_8abf5_4 : decode cJ0_length_8abf5 4 = .ok (.arraylength, 1) := by decide +kernel
theorem dJ0_length_8abf5_5 : decode cJ0_length_8abf5 5 = .ok (.aload_n 0, 1) := by decide +kernel
theorem dJ0_length_8abf5_6 : decode cJ0_length_8abf5 6 = .ok (.invokevirtual 335, 3) := by decide +kernel
theorem dJ0_length_8abf5_9 : decode cJ0_length_8abf5 9 = .ok (.ishr, 1) := by decide +kernel
theorem dJ0_length_8abf5_10 : decode cJ0_length_8abf5 10 = .ok (.ireturn, 1) := by decide +kernel
theorem eJ0_length_8abf5 {W : zWd} {i : Nat} {q : String × Nat × String × List Int} {Q : Option Value → zWd → Prop} {X : zX} (hs : zStrs[i]? = some q) (hn : q.2.2.2.length < 1000) (hq : Q (some (zI (q.2.2.2.length : Nat))) W) : Ev MJ0_length_8abf5 1 0 W [.ref (1000 + i)] Q X := by
  refine ev_of (ls := [.ref (1000 + i)]) (by decide) rfl (fun _ => rfl) (fun _ => Nat.le_of_ble_eq_true rfl) (Or.inl rfl) ?_
  refine rr_aload_n (pc := 0) dJ0_length_8abf5_0 rfl ?_
  refine rr_sV (pc := 1) hs dJ0_length_8abf5_1 gJ0_9 ?_
  refine rr_slen (pc := 4) hs dJ0_length_8abf5_4 ?_
  refine rr_aload_n (pc := 5) dJ0_length_8abf5_5 rfl ?_
  refine rr_invS (M' := MJ0_coder_7d493) (As := []) (pc := 6) hs dJ0_length_8abf5_6 lJ0_335 kJ0_coder_7d493 vJ0_coder_7d493 rfl (by decide) (by decide) (Nat.le_of_ble_eq_true rfl) rfl (eJ0_coder_7d493 hs ?_)
  refine rr_ishr (pc := 9) dJ0_length_8abf5_9 (by unfold zR; omega) (by omega) (by omega) ?_
  exact rr_reti (pc := 10) dJ0_length_8abf5_10 rfl rfl (by simp) rfl hq
theorem dJ3_checkIndex_8e157_0 : decode cJ3_checkIndex_8e157 0 = .ok (.iload_n 0, 1) := by decide +kernel
theorem dJ3_checkIndex_8e157_1 : decode cJ3_checkIndex_8e157 1 = .ok (.ifCond .lt 8, 3) := by decide +kernel
theorem dJ3_checkIndex_8e157_4 : decode cJ3_checkIndex_8e157 4 = .ok (.iload_n 0, 1) := by decide +kernel
theorem dJ3_checkIndex_8e157_5 : decode cJ3_checkIndex_8e157 5 = .ok (.iload_n 1, 1) := by decide +kernel
theorem dJ3_checkIndex_8e157_6 : decode cJ3_checkIndex_8e157 6 = .ok (.if_icmp .lt 10, 3) := by decide +kernel
theorem dJ3_checkIndex_8e157_9 : decode cJ3_checkIndex_8e157 9 = .ok (.aload_n 2, 1) := by decide +kernel
theorem dJ3_checkIndex_8e157_10 : decode cJ3_checkIndex_8e157 10 = .ok (.iload_n 0, 1) := by decide +kernel
theorem dJ3_checkIndex_8e157_11 : decode cJ3_checkIndex_8e157 11 = .ok (.iload_n 1, 1) := by decide +kernel
theorem dJ3_checkIndex_8e157_12 : decode cJ3_checkIndex_8e157 12 = .ok (.invokestatic 95, 3) := by decide +kernel
theorem dJ3_checkIndex_8e157_15 : decode cJ3_checkIndex_8e157 15 = .ok (.athrow, 1) := by decide +kernel
theorem dJ3_checkIndex_8e157_16 : decode cJ3_checkIndex_8e157 16 = .ok (.iload_n 0, 1) := by decide +kernel
theorem dJ3_checkIndex_8e157_17 : decode cJ3_checkIndex_8e157 17 = .ok (.ireturn, 1) := by decide +kernel
theorem eJ3_checkIndex_8e157 {W : zWd} {i n : Int} {Q : Option Value → zWd → Prop} {X : zX} (h0 : 0 ≤ i) (h1 : i < n) (hn : n < 1000) (hq : Q (some (zI i)) W) : Ev MJ3_checkIndex_8e157 0 0 W [zI i, zI n, .ref 1200] Q X := by
  refine ev_of (ls := [zI i, zI n, .ref 1200]) (by decide) rfl (fun _ => rfl) (fun _ => Nat.le_of_ble_eq_true rfl) (Or.inl rfl) ?_
  refine rr_iload_n (pc := 0) dJ3_checkIndex_8e157_0 rfl ?_
  refine rr_if_lt (pc := 1) (tgt := 9) dJ3_checkIndex_8e157_1 (by decide) (by unfold zR; omega) (fun h => absurd h (by omega)) (fun _ => ?_)
  refine rr_iload_n (pc := 4) dJ3_checkIndex_8e157_4 rfl ?_
  refine rr_iload_n (pc := 5) dJ3_checkIndex_8e157_5 rfl ?_
  refine rr_icmp_lt (pc := 6) (tgt := 16) dJ3_checkIndex_8e157_6 (by decide) (by unfold zR; omega) (by unfold zR; omega) (fun _ => ?_) (fun h => absurd h (by omega))
  refine rr_iload_n (pc := 16) dJ3_checkIndex_8e157_16 rfl ?_
  exact rr_reti (pc := 17) dJ3_checkIndex_8e157_17 rfl rfl rfl rfl hq
theorem ev_ofS {M : zM} {d : Nat} {W₀ : zWd} {args ls : List Value} {Q : Option Value → zWd → Prop} {X : zX} (hy : plainName M.2.2.2.1.cls = true) (hy2 : M.1 = M.2.2.2.1.cls) (hr : M.2.2.2.2 = some .int) (hl0 : ∀ ad, ∀ q ∈ zl ad 0 ls, q ∈ lv_args 0 (zts ad args)) (hn : ∀ ad, (lg_sl (zts ad args)).length ≤ M.2.2.1)
    (h : RR M d 0 W₀ 0 ls [] (fun _ pc _ st W' => decode M.2.1 pc = .ok (.ireturn, 1) ∧ ∃ z : Int, st = [zI z] ∧ Q (some (zI z)) W') X) : Ev M d 0 W₀ args Q X := by
  intro l D Y ad A hst hAd
  refine vx_ofW (cc := M.2.1) (maxL := M.2.2.1) (ret := M.2.2.2.2) hy rfl ?_
  intro p e s m a below meth c s₁ B hml hh hv
  obtain ⟨rfl, hP, hE, hA⟩ := hv
  have hts := atoms_spec (ws := zwM M) B.pre
  have hown : s.vm.findClass M.1 = some m.cls := by rw [hy2]; exact findClass_of_methodNamed B.named
  have hlocks := B.notSynchronized
  have hx := B.exec
  have hb := B.bytes
  have hC : zC M d 0 p l (headSpec (zwM M) (zRm d 0)).room s m (zts ad args).toArray meth c 0 0 D Y ad A :=
    ⟨⟨hx, hb, hml, hown, hts⟩, hst, hlocks, hh, B.returns, hE, hAd, hA, Nat.le_refl _, Nat.le_refl _, by show 0 + 0 ≤ 0; omega, by show 0 + 6 * 0 ≤ 6 * 0; omega⟩
  have hl := lv_entry (zts ad args) (n := M.2.2.1) (hn ad)
  have hl : lv_has _ M.2.2.1 (zl ad 0 ls) := ⟨hl.1, hl.2.1, fun q hq => hl.2.2 q (hl0 ad q hq)⟩
  rw [lg_entry_eq]
  refine h p l e _ s m (zts ad args).toArray below meth c 0 0 _ D Y ad A hC ?_ ?_ s.heap [] _ hP va_S.rf hl
  · intro t' pc' ls' st' W' H' locs' lsA' cells' slots' hk hP' hS' hl' hc' hs'
    obtain ⟨hdg, z, rfl, hq⟩ := hk
    refine W.widen (k := 0) (n := 6 * 0) (by omega) (by omega) (vx_ret ?_)
    exact W.zret hx hb (B.returns.trans hr) rfl (fun tt htt hW => ⟨⟨some (zI z), W', rfl, hq, by rw [htt]; exact hP'⟩, hS'.F htt⟩) hS'.2.2 hdg hlocks
  · intro E pc' st' W' H' locs' lsA' cells' slots' ce q hXE hP' hS' hc' hs' hce hcv hcl
    exact vx_out (fun x hx => (hh x hx).elim) hlocks hce hcv hcl (fun tt htt hal => ⟨⟨W', hXE, by rw [htt]; exact hP'⟩, hS'.F htt⟩) hS'.2.2 (by omega) (by omega)
theorem eJ3_checkIndex_null {W : zWd} {i n : Int} {Q : Option Value → zWd → Prop} {X : zX} (h0 : 0 ≤ i) (h1 : i < n) (hn : n < 1000) (hq : Q (some (zI i)) W) : Ev MJ3_checkIndex_8e157 0 0 W [zI i, zI n, .null] Q X := by
  refine ev_ofS (ls := [zI i, zI n]) (by decide) rfl rfl (fun ad q hq => List.mem_append_left [((2 : Nat), Value.null)] hq) (fun _ => Nat.le_of_ble_eq_true rfl) ?_
  refine rr_iload_n (pc := 0) dJ3_checkIndex_8e157_0 rfl ?_
  refine rr_if_lt (pc := 1) (tgt := 9) dJ3_checkIndex_8e157_1 (by decide) (by unfold zR; omega) (fun h => absurd h (by omega)) (fun _ => ?_)
  refine rr_iload_n (pc := 4) dJ3_checkIndex_8e157_4 rfl ?_
  refine rr_iload_n (pc := 5) dJ3_checkIndex_8e157_5 rfl ?_
  refine rr_icmp_lt (pc := 6) (tgt := 16) dJ3_checkIndex_8e157_6 (by decide) (by unfold zR; omega) (by unfold zR; omega) (fun _ => ?_) (fun h => absurd h (by omega))
  refine rr_iload_n (pc := 16) dJ3_checkIndex_8e157_16 rfl ?_
  exact rr_base ⟨dJ3_checkIndex_8e157_17, i, rfl, hq⟩
theorem dJ0_checkIndex_df160_0 : decode cJ0_checkIndex_df160 0 = .ok (.iload_n 0, 1) := by decide +kernel
theorem dJ0_checkIndex_df160_1 : decode cJ0_checkIndex_df160 1 = .ok (.iload_n 1, 1) := by decide +kernel
theorem dJ0_checkIndex_df160_2 : decode cJ0_checkIndex_df160 2 = .ok (.getstatic 1053, 3) := by decide +kernel
theorem dJ0_checkIndex_df160_5 : decode cJ0_checkIndex_df160 5 = .ok (.invokestatic 1059, 3) := by decide +kernel
theorem dJ0_checkIndex_df160_8 : decode cJ0_checkIndex_df160 8 = .ok (.pop, 1) := by decide +kernel
theorem dJ0_checkIndex_df160_9 : decode cJ0_checkIndex_df160 9 = .ok (.return_, 1) := by decide +kernel
theorem eJ0_checkIndex_df160 {W : zWd} {i n : Int} {Q : Option Value → zWd → Prop} {X : zX} (h0 : 0 ≤ i) (h1 : i < n) (hn : n < 1000) (hq : Q none W) : Ev MJ0_checkIndex_df160 1 0 W [zI i, zI n] Q X := by
  refine ev_of (ls := [zI i, zI n]) (by decide) rfl (fun _ => rfl) (fun _ => Nat.le_of_ble_eq_true rfl) (Or.inl rfl) ?_
  refine rr_iload_n (pc := 0) dJ0_checkIndex_df160_0 rfl ?_
  refine rr_iload_n (pc := 1) dJ0_checkIndex_df160_1 rfl ?_
  refine rr_gsF (pc := 2) dJ0_checkIndex_df160_2 gJ0_1053 ?_ ?_
  · refine rr_sta0 (M' := MJ3_checkIndex_8e157) (As := [_, _, _]) (pc := 5) dJ0_checkIndex_df160_5 lJ0_1059 kJ3_checkIndex_8e157 sJ3_checkIndex_8e157 (by decide) (by decide) (Nat.le_of_ble_eq_true rfl) rfl (eJ3_checkIndex_8e157 h0 h1 hn ?_)
    refine rr_pop_i (pc := 8) dJ0_checkIndex_df160_8 ?_
    exact rr_retv (pc := 9) dJ0_checkIndex_df160_9 rfl rfl hq
  · refine rr_sta0 (M' := MJ3_checkIndex_8e157) (As := [_, _, _]) (pc := 5) dJ0_checkIndex_df160_5 lJ0_1059 kJ3_checkIndex_8e157 sJ3_checkIndex_8e157 (by decide) (by decide) (Nat.le_of_ble_eq_true rfl) rfl (eJ3_checkIndex_null h0 h1 hn ?_)
    refine rr_pop_i (pc := 8) dJ0_checkIndex_df160_8 ?_
    exact rr_retv (pc := 9) dJ0_checkIndex_df160_9 rfl rfl hq
theorem dJ1_charAt_3b067_0 : decode cJ1_charAt_3b067 0 = .ok (.iload_n 1, 1) := by decide +kernel
theorem dJ1_charAt_3b067_1 : decode cJ1_charAt_3b067 1 = .ok (.aload_n 0, 1) := by decide +kernel
theorem dJ1_charAt_3b067_2 : decode cJ1_charAt_3b067 2 = .ok (.arraylength, 1) := by decide +kernel
theorem dJ1_charAt_3b067_3 : decode cJ1_charAt_3b067 3 = .ok (.invokestatic 9, 3) := by decide +kernel
theorem dJ1_charAt_3b067_6 : decode cJ1_charAt_3b067 6 = .ok (.aload_n 0, 1) := by decide +kernel
theorem dJ1_charAt_3b067_7 : decode cJ1_charAt_3b067 7 = .ok (.iload_n 1, 1) := by decide +kernel
theorem dJ1_charAt_3b067_8 : decode cJ1_charAt_3b067 8 = .ok (.baload, 1) := by decide +kernel
theorem dJ1_charAt_3b067_9 : decode cJ1_charAt_3b067 9 = .ok (.sipush 255, 3) := by decide +kernel
theorem dJ1_charAt_3b067_12 : decode cJ1_charAt_3b067 12 = .ok (.iand, 1) := by decide +kernel
theorem dJ1_charAt_3b067_13 : decode cJ1_charAt_3b067 13 = .ok (.i2c, 1) := by decide +kernel
theorem dJ1_charAt_3b067_14 : decode cJ1_charAt_3b067 14 = .ok (.ireturn, 1) := by decide +kernel
theorem eJ1_charAt_3b067 {W : zWd} {i : Nat} {q : String × Nat × String × List Int} {j : Int} {Q : Option Value → zWd → Prop} {X : zX} (hs : zStrs[i]? = some q) (hn : q.2.2.2.length < 1000) (h0 : 0 ≤ j) (h1 : j < q.2.2.2.length) (hb0 : 0 ≤ q.2.2.2.getD j.toNat 0) (hb1 : q.2.2.2.getD j.toNat 0 < 128) (hq : Q (some (zI (q.2.2.2.getD j.toNat 0))) W) : Ev MJ1_charAt_3b067 2 0 W [.ref (1100 + i), zI j] Q X := by
  refine ev_of (ls := [.ref (1100 + i), zI j]) (by decide) rfl (fun _ => rfl) (fun _ => Nat.le_of_ble_eq_true rfl) (Or.inl rfl) ?_
  refine rr_iload_n (pc := 0) dJ1_charAt_3b067_0 rfl ?_
  refine rr_aload_n (pc := 1) dJ1_charAt_3b067_1 rfl ?_
  refine rr_slen (pc := 2) hs dJ1_charAt_3b067_2 ?_
  refine rr_sta0 (M' := MJ0_checkIndex_df160) (As := [_, _]) (pc := 3) dJ1_charAt_3b067_3 lJ1_9 kJ0_checkIndex_df160 sJ0_checkIndex_df160 (by decide) (by decide) (Nat.le_of_ble_eq_true rfl) rfl (eJ0_checkIndex_df160 h0 h1 (by omega) ?_)
  refine rr_aload_n (pc := 6) dJ1_charAt_3b067_6 rfl ?_
  refine rr_iload_n (pc := 7) dJ1_charAt_3b067_7 rfl ?_
  refine rr_sbald (pc := 8) hs dJ1_charAt_3b067_8 h0 h1 hn ?_
  refine rr_sipush (n := (255)) dJ1_charAt_3b067_9 ?_
  refine rr_iandm (pc := 12) 8 dJ1_charAt_3b067_12 (by decide) rfl ?_
  rw [show q.2.2.2.getD j.toNat 0 % 2 ^ 8 = q.2.2.2.getD j.toNat 0 by omega]
  refine rr_i2c (pc := 13) dJ1_charAt_3b067_13 hb0 hb1 ?_
  exact rr_reti (pc := 14) dJ1_charAt_3b067_14 rfl (z_chr hb0 hb1).2 rfl rfl hq
theorem dJ0_charAt_5068e_0 : decode cJ0_charAt_5068e 0 = .ok (.aload_n 0, 1) := by decide +kernel
theorem dJ0_charAt_5068e_1 : decode cJ0_charAt_5068e 1 = .ok (.invokevirtual 492, 3) := by decide +kernel
theorem dJ0_charAt_5068e_4 : decode cJ0_charAt_5068e 4 = .ok (.ifCond .eq 12, 3) := by decide +kernel
theorem dJ0_charAt_5068e_7 : decode cJ0_charAt_5068e 7 = .ok (.aload_n 0, 1) := by decide +kernel
theorem dJ0_charAt_5068e_8 : decode cJ0_charAt_5068e 8 = .ok (.getfield 9, 3) := by decide +kernel
theorem dJ0_charAt_5068e_11 : decode cJ0_charAt_5068e 11 = .ok (.iload_n 1, 1) := by decide +kernel
theorem dJ0_charAt_5068e_12 : decode cJ0_charAt_5068e 12 = .ok (.invokestatic 495, 3) := by decide +kernel
theorem dJ0_charAt_5068e_15 : decode cJ0_charAt_5068e 15 = .ok (.ireturn, 1) := by decide +kernel
theorem dJ0_charAt_5068e_16 : decode cJ0_charAt_5068e 16 = .ok (.aload_n 0, 1) := by decide +kernel
theorem dJ0_charAt_5068e_17 : decode cJ0_charAt_5068e 17 = .ok (.getfield 9, 3) := by decide +kernel
theorem dJ0_charAt_5068e_20 : decode cJ0_charAt_5068e 20 = .ok (.iload_n 1, 1) := by decide +kernel
theorem dJ0_charAt_5068e_21 : decode cJ0_charAt_5068e 21 = .ok (.invokestatic 498, 3) := by decide +kernel
theorem dJ0_charAt_5068e_24 : decode cJ0_charAt_5068e 24 = .ok (.ireturn, 1) := by decide +kernel
theorem eJ0_charAt_5068e {W : zWd} {i : Nat} {q : String × Nat × String × List Int} {j : Int} {Q : Option Value → zWd → Prop} {X : zX} (hs : zStrs[i]? = some q) (hn : q.2.2.2.length < 1000) (h0 : 0 ≤ j) (h1 : j < q.2.2.2.length) (hb0 : 0 ≤ q.2.2.2.getD j.toNat 0) (hb1 : q.2.2.2.getD j.toNat 0 < 128) (hq : Q (some (zI (q.2.2.2.getD j.toNat 0))) W) : Ev MJ0_charAt_5068e 3 0 W [.ref (1000 + i), zI j] Q X := by
  refine ev_of (ls := [.ref (1000 + i), zI j]) (by decide) rfl (fun _ => rfl) (fun _ => Nat.le_of_ble_eq_true rfl) (Or.inl rfl) ?_
  refine rr_aload_n (pc := 0) dJ0_charAt_5068e_0 rfl ?_
  refine rr_invS (M' := MJ0_isLatin1_aae02) (As := []) (pc := 1) hs dJ0_charAt_5068e_1 lJ0_492 kJ0_isLatin1_aae02 vJ0_isLatin1_aae02 rfl (by decide) (by decide) (Nat.le_of_ble_eq_true rfl) rfl (eJ0_isLatin1_aae02 hs ?_)
  refine rr_if_eq (pc := 4) (tgt := 16) dJ0_charAt_5068e_4 (by decide) (by unfold zR; omega) (fun h => absurd h (by decide)) (fun _ => ?_)
  refine rr_aload_n (pc := 7) dJ0_charAt_5068e_7 rfl ?_
  refine rr_sV (pc := 8) hs dJ0_charAt_5068e_8 gJ0_9 ?_
  refine rr_iload_n (pc := 11) dJ0_charAt_5068e_11 rfl ?_
  refine rr_sta0 (M' := MJ1_charAt_3b067) (As := [_, _]) (pc := 12) dJ0_charAt_5068e_12 lJ0_495 kJ1_charAt_3b067 sJ1_charAt_3b067 (by decide) (by decide) (Nat.le_of_ble_eq_true rfl) rfl (eJ1_charAt_3b067 hs hn h0 h1 hb0 hb1 ?_)
  exact rr_reti (pc := 15) dJ0_charAt_5068e_15 rfl (z_chr hb0 hb1).2 rfl rfl hq
