/-! doubles in the law: the first is kept in place 5 over the second call -/
section ZDD
variable {b L : Nat} {xs : Nat → Int32} {t : Nat} {W₀ : zWd} {pc : Nat} {i : Int}
theorem z_dmem {ad : Nat → Nat} {q : Nat × Value} (h : q ∈ zl ad 0 (zLS i)) {v : UInt64} : q ∈ ((5, Value.double v) :: (zl ad 0 (zLS i)).filter (fun q => !(q.1 == 5) && (!(q.1 == 5 + 1) && !(q.1 + 1 == 5 && q.2.category == 2)))) := by
  refine List.mem_cons_of_mem _ (List.mem_filter.mpr ⟨h, ?_⟩)
  have hc := zl_cat ad (zLS i) 0 q h
  have hq : q.1 < 5 := by
    have h9 : ∀ q ∈ zl ad 0 (zLS i), q.1 < 5 := by
      intro q hq
      have hq : q ∈ [((0 : Nat), Value.ref (ad 1300)), (1, Value.ref (ad 96)), (2, Value.ref (ad 116)), (3, Value.ref (ad 128)), (4, zI i)] := hq
      simp only [List.mem_cons, List.not_mem_nil, or_false] at hq
      rcases hq with rfl | rfl | rfl | rfl | rfl <;> exact (show (_ : Nat) < 5 by simp)
    exact h9 q h
  rw [hc.2]
  simp
  omega
theorem rs_dbl {v : UInt64} {M' : zM} {d' index : Nat} {T : u_T} {N : Nat} {off : Int} {tgt : Nat} (hv : FP.dcmp v v = some .eq) (d0 : decode cL_law pc = .ok (.dstore 5, 2)) (d2 : decode cL_law (pc + 2) = .ok (.aload_n 2, 1)) (d3 : decode cL_law (pc + 3) = .ok (.invokevirtual index, 3)) (hl : Cond.methodLink RL index M'.2.2.2.1 ∈ zWs) (hcm : zCm M' 0) (hvm : zVm M') (hcl : vwCl[7]? = some (M'.1, T, N)) (hdd : d' + 1 ≤ 11) (hlo : M'.2.2.1 ≤ 21)
    {m : Nat} (hm : m = pc + 6 ∨ (m = pc + 7 ∧ decode cL_law (pc + 6) = .ok (.f2d, 1)))
    (e0 : decode cL_law m = .ok (.dstore 7, 2)) (e2 : decode cL_law (m + 2) = .ok (.dload 5, 2)) (e4 : decode cL_law (m + 4) = .ok (.dload 7, 2)) (e6 : decode cL_law (m + 6) = .ok (.dcmp .l, 1)) (e7 : decode cL_law (m + 7) = .ok (.ifCond .eq off, 3)) (ht : ((m + 7 : Nat) : Int) + off = (tgt : Int))
    (hE : Ev M' d' 0 W₀ [.ref 116] (fun r W' => ((m = pc + 6 ∧ r = some (.double v)) ∨ (m = pc + 7 ∧ ∃ f : UInt32, r = some (.float f) ∧ FP.f2d f = v ∧ vf_n64 (FP.f2d f))) ∧ RS b L xs t W' tgt (zLS i) []) (fun _ _ => False)) : RS b L xs t W₀ pc (zLS i) [.double v] := by
  intro p l e R s m0 args below meth c cells slots Q D Y ad A hC hN hX hb hbA had hK H locs lsA hP hS hlv
  obtain ⟨⟨h1, h2, h3, h4, h5⟩, c2, c3, c4, c5, c6, c7, c8, c9, c10, c11, c12⟩ := id hC
  refine lv_dstore h1 h2 d0 hlv (by decide) rfl (fun lsB hB => ?_)
  have hB0 : lv_has lsB 9 (zl ad 0 (zLS i)) := ⟨hB.1, hB.2.1, fun q hq => hB.2.2 q (z_dmem hq)⟩
  refine lv_aload_n h1 h2 d2 rfl (zl_atR (k := 2) (r := 116) hB0 rfl) ?_
  have he := zws_at Y ad W₀ (show 116 < 129 by decide)
  rw [zc_obj Y ad W₀ (show zk 116 = (7, 0) from rfl) (by decide)] at he
  have cb : CallB R s args RL index M'.2.2.2.1 M'.2.1 M'.2.2.1 M'.2.2.2.2 (zwM M') (zRm d' 0) 0 (6 * 0) 0 := z_callB (M := MLaw) h5 hcm hl (by omega) (by omega)
  have hr : vx_Run p l e R s m0 args below meth c H locs cells slots 0 (6 * 0) (F0 m0 (pc + 2 + 1) lsB [.ref (ad 116)]) [] (zEQ D Y ad A (fun r W' => ((m = pc + 6 ∧ r = some (.double v)) ∨ (m = pc + 7 ∧ ∃ f : UInt32, r = some (.float f) ∧ FP.f2d f = v ∧ vf_n64 (FP.f2d f))) ∧ RS b L xs t W' tgt (zLS i) []) (Value.ref (ad 116) :: zts ad []).toArray) (zEX D Y ad A (fun _ _ => False)) A := by
    refine vx_runV (C := M'.1) (n := 0) (bytes := M'.2.1) (maxL := M'.2.2.1) (ret := M'.2.2.2.2) (As := zts ad []) (b := ad 116) ⟨h1, h2, h3, h4, h5⟩ (hE l D Y ad A c2 c7) ⟨cb, h5 _ (List.mem_cons_of_mem _ hvm.1), h5 _ (List.mem_cons_of_mem _ hvm.2)⟩ ⟨zBlind, va_recv c6.1 hP hcl he, fun U hU hW => ?_⟩ rfl rfl hB.1 rfl (lv_room (by decide)) d3 ⟨by omega, by omega⟩
    exact zE_warm (args := [.ref 116]) hU hW hS c6 hP c8
  intro TT hT X0
  rcases hr TT hT X0 with ⟨r0, st₀, t9, T', LL, g0, X', hL, e1, e9, ⟨⟨r, W', hv9, hq, hb9⟩, hF⟩, st9⟩ | ⟨q, st₀, t9, T', LL, E, ce, g0, X', hL, e1, e9, ⟨⟨W', hXE, hb9⟩, hF⟩, hrest⟩
  · cases hv9
    obtain ⟨k1, k2, k3⟩ := vx_keep g0 e1 hS (fun q _ h => h) (fun q h => h) hL hF
    obtain ⟨hr9, hrs⟩ := hq
    have hP9 : va_P D vwCl (zws Y ad W') T'.heap := by rw [e1]; exact hb9
    have fin : W p l e R s m0 args below meth c T'.heap (locs ++ LL) cells slots Q (F0 m0 m lsB [.double v]) := by
      refine lv_dstore h1 h2 e0 hB (by decide) rfl (fun lsC hC9 => ?_)
      have hC0 : lv_has lsC 9 (zl ad 0 (zLS i)) := by
        refine ⟨hC9.1, hC9.2.1, fun q hq => hC9.2.2 q (List.mem_cons_of_mem _ (List.mem_filter.mpr ⟨z_dmem hq, ?_⟩))⟩
        have h9 : ∀ q ∈ zl ad 0 (zLS i), q.1 < 5 := by
          intro q hq
          have hq : q ∈ [((0 : Nat), Value.ref (ad 1300)), (1, Value.ref (ad 96)), (2, Value.ref (ad 116)), (3, Value.ref (ad 128)), (4, zI i)] := hq
          simp only [List.mem_cons, List.not_mem_nil, or_false] at hq
          rcases hq with rfl | rfl | rfl | rfl | rfl <;> exact (show (_ : Nat) < 5 by simp)
        have := h9 q hq
        simp
        omega
      refine lv_dload h1 h2 e2 (hC9.2.2 (5, .double v) (List.mem_cons_of_mem _ (List.mem_filter.mpr ⟨List.mem_cons_self, by simp⟩))) ?_
      refine lv_dload h1 h2 e4 (hC9.2.2 (7, .double v) List.mem_cons_self) ?_
      refine lv_dcmp h1 h2 e6 ?_
      rw [hv]
      exact (rs_if_eq (b := b) (L := L) (xs := xs) (t := t) (W₀ := W') (pc := m + 7) (ls := zLS i) (st := []) (a := 0) e7 ht zR_zero (fun _ => hrs) (fun h => (h rfl).elim)) p l e R s m0 args below meth c cells slots Q D Y ad A hC hN hX hb hbA had hK T'.heap (locs ++ LL) lsC hP9 k3 hC0
    have go : W p l e R s m0 args below meth c T'.heap (locs ++ LL) cells slots Q (F0 m0 (pc + 6) lsB ((r.map (zt ad)).toList ++ [])) := by
      rcases hr9 with ⟨hm9, rfl⟩ | ⟨hm9, f, rfl, hf, hn⟩
      · rw [← hm9]; exact fin
      · rcases hm with hm | ⟨hm, df⟩
        · omega
        · refine lv_f2d h1 h2 df hn ?_
          rw [hf, ← hm]
          exact fin
    obtain ⟨t2, a1, b1⟩ := go T' rfl X'
    exact ⟨t2, st9 t2 a1, b1⟩
  · exact hXE.elim
theorem rs_f2d {f : UInt32} (hn : vf_n64 (FP.f2d f)) (d0 : decode cL_law pc = .ok (.f2d, 1)) (k : RS b L xs t W₀ (pc + 1) (zLS i) [.double (FP.f2d f)]) : RS b L xs t W₀ pc (zLS i) [.float f] := by
  intro p l e R s m args below meth c cells slots Q D Y ad A hC hN hX hb hbA had hK H locs lsA hP hS hlv
  exact lv_f2d hC.1.1 hC.1.2.1 d0 hn (k p l e R s m args below meth c cells slots Q D Y ad A hC hN hX hb hbA had hK H locs lsA hP hS hlv)
end ZDD
theorem lw_meanCost {b L : Nat} {xs : Nat → Int32} {t : Nat} {W : zWd} {T i : Int} (hL : L ≤ 3072) (h0 : 0 ≤ i) (h1 : i + 6 ≤ L) (ht : 2 ≤ t) (hT : T + 8000 ≤ 100000000) (hN : zNN) (hI : zIv W T) (k : ∀ (W' : zWd) (t' : Nat), t - 2 ≤ t' → zIv W' (T + 26) → RS b L xs t' W' 1937 (zLS i) []) : RS b L xs t W 1239 (zLS i) [] := by
  obtain ⟨a, n, K, B, S, TL, Z, e, hc, hm, hp⟩ := hI
  have hw := hp.1.1
  refine rs_aload_n (k := 1) dL_law_1239 rfl ?_
  refine rs_inv0 (M' := MX6_meanCost) (k := 96) (As := []) (pc := 1240) dL_law_1240 lL_170 kX6_meanCost vX6_meanCost zk_96 (by decide) rfl (by decide) (Nat.le_of_ble_eq_true rfl) (Nat.le_of_ble_eq_true rfl) rfl (eX6_meanCost hc.1 hw hc.2.1 hN (fun W1 o1 gg => ?_))
  have hc1 := hc.g o1 gg
  have hm1 := hm.up (W' := W1) o1.m
  refine rs_dbl (pc := 1243) (m := 1249) (tgt := 1277) (M' := MX7_meanCost) (hN.2.2.2 _ (vMean_n hN hw.2.2.2.2.2.1)) dL_law_1243 dL_law_1245 dL_law_1246 lL_174 kX7_meanCost vX7_meanCost rfl (by decide) (Nat.le_of_ble_eq_true rfl) (Or.inl rfl) dL_law_1249 dL_law_1251 dL_law_1253 dL_law_1255 dL_law_1256 (by decide) (eX7_meanCost hm1.1 hw hN (fun W3 o3 t3 => ⟨Or.inl ⟨rfl, rfl⟩, ?_⟩))
  exact rs_goto (pc := 1277) dL_law_1277 (by decide) (k _ _ (by omega) ⟨a, n, K, B, S, TL, Z, e, hc1.up o3.c, hm1.Q o3, hp.mono (by omega) (by omega)⟩)
theorem lw_success {b L : Nat} {xs : Nat → Int32} {t : Nat} {W : zWd} {T i : Int} (hL : L ≤ 3072) (h0 : 0 ≤ i) (h1 : i + 6 ≤ L) (ht : 2 ≤ t) (hT : T + 8000 ≤ 100000000) (hN : zNN) (hI : zIv W T) (k : ∀ (W' : zWd) (t' : Nat), t - 2 ≤ t' → zIv W' (T + 26) → RS b L xs t' W' 1937 (zLS i) []) : RS b L xs t W 1280 (zLS i) [] := by
  obtain ⟨a, n, K, B, S, TL, Z, e, hc, hm, hp⟩ := hI
  have hw := hp.1.1
  have h5 : zR (a 5) := by
    have g0 := hw.2.2.2.2.2.2.2.2.2.2.1
    have g1 := hw.2.2.2.2.2.2.2.2.2.2.2.1
    unfold zR; omega
  have hv := hN.2.2.1 _ (vSucc_n hN h5)
  refine rs_aload_n (k := 1) dL_law_1280 rfl ?_
  refine rs_inv0 (M' := MX6_success) (k := 96) (As := []) (pc := 1281) dL_law_1281 lL_175 kX6_success vX6_success zk_96 (by decide) rfl (by decide) (Nat.le_of_ble_eq_true rfl) (Nat.le_of_ble_eq_true rfl) rfl (eX6_success hc.1 hw hN h5 ?_)
  refine rs_f2d (pc := 1284) hv dL_law_1284 ?_
  refine rs_dbl (pc := 1285) (m := 1292) (tgt := 1320) (M' := MX7_success) (hN.2.2.2 _ hv) dL_law_1285 dL_law_1287 dL_law_1288 lL_179 kX7_success vX7_success rfl (by decide) (Nat.le_of_ble_eq_true rfl) (Or.inr ⟨rfl, dL_law_1291⟩) dL_law_1292 dL_law_1294 dL_law_1296 dL_law_1298 dL_law_1299 (by decide) (eX7_success hm.1 hN h5 (fun W3 o3 t3 => ⟨Or.inr ⟨rfl, _, rfl, rfl, hv⟩, ?_⟩))
  exact rs_goto (pc := 1320) dL_law_1320 (by decide) (k _ _ (by omega) ⟨a, n, K, B, S, TL, Z, e, hc.up o3.c, hm.Q o3, hp.mono (by omega) (by omega)⟩)
/-- the law's loop: the invariant holds at its head -/
theorem lw_loop {b L : Nat} {xs : Nat → Int32} (hL : L ≤ 3072) (hN : zNN) : ∀ (n t : Nat) (W : zWd) (T i : Int), 0 ≤ i → i ≤ L → (L : Int) - i < 6 * n → 2 * n ≤ t → T + 26 * n + 8000 ≤ 100000000 → zIv W T → RS b L xs t W 23 (zLS i) [] := by
  intro n
  induction n with
  | zero => intro t W T i h0 h1 hm; omega
  | succ n ih =>
    intro t W T i h0 hiL hm ht hT hI
    refine rs_iload (pc := 23) dL_law_23 rfl ?_
    refine rs_aload_n (k := 0) (pc := 25) dL_law_25 rfl ?_
    refine rs_len hL (pc := 26) dL_law_26 ?_
    refine rs_bipush (n := 6) (pc := 27) dL_law_27 ?_
    refine rs_isub (pc := 29) dL_law_29 ?_
    refine rs_icmp_gt (pc := 30) (tgt := 1943) dL_law_30 (by decide) (by unfold zR; omega) (by unfold zR; omega) (fun _ => ?_) (fun h1 => ?_)
    · exact rs_iconst (n := 1) (pc := 1943) dL_law_1943 (rs_end dL_law_1944)
    have hk : ∀ (W' : zWd) (t' : Nat), t - 2 ≤ t' → zIv W' (T + 26) → RS b L xs t' W' 1937 (zLS i) [] := fun W' t' g1 g2 => by
      refine rs_iinc (pc := 1937) (n := 6) (z := i) dL_law_1937 rfl (by decide) ?_
      refine rs_goto (pc := 1940) (tgt := 23) dL_law_1940 (by decide) ?_
      exact ih t' W' (T + 26) (i + 6) (by omega) (by omega) (by omega) (by omega) (by omega) g2
    refine rs_w0 (b := b) hL h0 (by omega) rfl rfl dL_law_33 dL_law_34 dL_law_36 ?_
    refine rs_bipush (n := 31) (pc := 37) dL_law_37 ?_
    refine rs_iandm (pc := 39) 5 dL_law_39 (by decide) (by decide) ?_
    have hj0 : 0 ≤ zXs xs i % 2 ^ 5 := Int.emod_nonneg _ (by decide)
    have hj1 : zXs xs i % 2 ^ 5 < 2 ^ 5 := Int.emod_lt_of_pos _ (by decide)
    have hjj : ∃ j : Int, zXs xs i % 2 ^ 5 = j := ⟨_, rfl⟩
    obtain ⟨j, hj⟩ := hjj
    rw [hj] at hj0 hj1
    rw [hj]
    have hj1 : j < 32 := hj1
    clear hj
    have hj : j = 0 ∨ j = 1 ∨ j = 2 ∨ j = 3 ∨ j = 4 ∨ j = 5 ∨ j = 6 ∨ j = 7 ∨ j = 8 ∨ j = 9 ∨ j = 10 ∨ j = 11 ∨ j = 12 ∨ j = 13 ∨ j = 14 ∨ j = 15 ∨ j = 16 ∨ j = 17 ∨ j = 18 ∨ j = 19 ∨ j = 20 ∨ j = 21 ∨ j = 22 ∨ j = 23 ∨ j = 24 ∨ j = 25 ∨ j = 26 ∨ j = 27 ∨ j = 28 ∨ j = 29 ∨ j = 30 ∨ j = 31 := by omega
    rcases hj with hj | hj | hj | hj | hj | hj | hj | hj | hj | hj | hj | hj | hj | hj | hj | hj | hj | hj | hj | hj | hj | hj | hj | hj | hj | hj | hj | hj | hj | hj | hj | hj
    · rw [hj]; exact rs_tabI (pc := 40) (off := 144) (tgt := 184) dL_law_40 (by unfold zR; omega) (by decide) (by decide) (by decide) (by decide) (lw_append hL h0 (by omega) (by omega) (by omega) hI hk)
    · rw [hj]; exact rs_tabI (pc := 40) (off := 248) (tgt := 288) dL_law_40 (by unfold zR; omega) (by decide) (by decide) (by decide) (by decide) (lw_load hL h0 (by omega) (by omega) (by omega) hI hk)
    · rw [hj]; exact rs_tabI (pc := 40) (off := 261) (tgt := 301) dL_law_40 (by unfold zR; omega) (by decide) (by decide) (by decide) (by decide) (lw_errorPosition hL h0 (by omega) (by omega) (by omega) hI hk)
    · rw [hj]; exact rs_tabI (pc := 40) (off := 274) (tgt := 314) dL_law_40 (by unfold zR; omega) (by decide) (by decide) (by decide) (by decide) (lw_count hL h0 (by omega) (by omega) (by omega) hI hk)
    · rw [hj]; exact rs_tabI (pc := 40) (off := 330) (tgt := 370) dL_law_40 (by unfold zR; omega) (by decide) (by decide) (by decide) (by decide) (lw_player hL h0 (by omega) (by omega) (by omega) hI hk)
    · rw [hj]; exact rs_tabI (pc := 40) (off := 398) (tgt := 438) dL_law_40 (by unfold zR; omega) (by decide) (by decide) (by decide) (by decide) (lw_square hL h0 (by omega) (by omega) (by omega) hI hk)
    · rw [hj]; exact rs_tabI (pc := 40) (off := 466) (tgt := 506) dL_law_40 (by unfold zR; omega) (by decide) (by decide) (by decide) (by decide) (lw_row hL h0 (by omega) (by omega) (by omega) hI hk)
    · rw [hj]; exact rs_tabI (pc := 40) (off := 522) (tgt := 562) dL_law_40 (by unfold zR; omega) (by decide) (by decide) (by decide) (by decide) (lw_footing hL h0 (by omega) (by omega) (by omega) hI hk)
    · rw [hj]; exact rs_tabI (pc := 40) (off := 590) (tgt := 630) dL_law_40 (by unfold zR; omega) (by decide) (by decide) (by decide) (by decide) (lw_throwFault hL h0 (by omega) (by omega) (by omega) hI hk)
    · rw [hj]; exact rs_tabI (pc := 40) (off := 670) (tgt := 710) dL_law_40 (by unfold zR; omega) (by decide) (by decide) (by decide) (by decide) (lw_bestThrow hL h0 (by omega) (by omega) (by omega) hI hk)
    · rw [hj]; exact rs_tabI (pc := 40) (off := 726) (tgt := 766) dL_law_40 (by unfold zR; omega) (by decide) (by decide) (by decide) (by decide) (lw_hopFault hL h0 (by omega) (by omega) (by omega) hI hk)
    · rw [hj]; exact rs_tabI (pc := 40) (off := 782) (tgt := 822) dL_law_40 (by unfold zR; omega) (by decide) (by decide) (by decide) (by decide) (lw_cost hL h0 (by omega) (by omega) (by omega) hI hk)
    · rw [hj]; exact rs_tabI (pc := 40) (off := 866) (tgt := 906) dL_law_40 (by unfold zR; omega) (by decide) (by decide) (by decide) (by decide) (lw_place hL h0 (by omega) (by omega) (by omega) hI hk)
    · rw [hj]; exact rs_tabI (pc := 40) (off := 962) (tgt := 1002) dL_law_40 (by unfold zR; omega) (by decide) (by decide) (by decide) (by decide) (lw_leastReach hL h0 (by omega) (by omega) (by omega) hI hk)
    · rw [hj]; exact rs_tabI (pc := 40) (off := 1018) (tgt := 1058) dL_law_40 (by unfold zR; omega) (by decide) (by decide) (by decide) (by decide) (lw_playable hL h0 (by omega) (by omega) (by omega) hI hk)
    · rw [hj]; exact rs_tabI (pc := 40) (off := 1074) (tgt := 1114) dL_law_40 (by unfold zR; omega) (by decide) (by decide) (by decide) (by decide) (lw_bestClaim hL h0 (by omega) (by omega) (by omega) hI hk)
    · rw [hj]; exact rs_tabI (pc := 40) (off := 1130) (tgt := 1170) dL_law_40 (by unfold zR; omega) (by decide) (by decide) (by decide) (by decide) (lw_turnsToCrown hL h0 (by omega) (by omega) (by omega) hI hk)
    · rw [hj]; exact rs_tabI (pc := 40) (off := 1186) (tgt := 1226) dL_law_40 (by unfold zR; omega) (by decide) (by decide) (by decide) (by decide) (lw_firstThrough hL h0 (by omega) (by omega) (by omega) hI hk)
    · rw [hj]; exact rs_tabI (pc := 40) (off := 1199) (tgt := 1239) dL_law_40 (by unfold zR; omega) (by decide) (by decide) (by decide) (by decide) (lw_meanCost hL h0 (by omega) (by omega) (by omega) hN hI hk)
    · rw [hj]; exact rs_tabI (pc := 40) (off := 1240) (tgt := 1280) dL_law_40 (by unfold zR; omega) (by decide) (by decide) (by decide) (by decide) (lw_success hL h0 (by omega) (by omega) (by omega) hN hI hk)
    · rw [hj]; exact rs_tabI (pc := 40) (off := 1283) (tgt := 1323) dL_law_40 (by unfold zR; omega) (by decide) (by decide) (by decide) (by decide) (lw_turn hL h0 (by omega) (by omega) (by omega) hI hk)
    · rw [hj]; exact rs_tabI (pc := 40) (off := 1351) (tgt := 1391) dL_law_40 (by unfold zR; omega) (by decide) (by decide) (by decide) (by decide) (lw_pass hL h0 (by omega) (by omega) (by omega) hI hk)
    · rw [hj]; exact rs_tabI (pc := 40) (off := 1364) (tgt := 1404) dL_law_40 (by unfold zR; omega) (by decide) (by decide) (by decide) (by decide) (lw_claim hL h0 (by omega) (by omega) (by omega) hI hk)
    · rw [hj]; exact rs_tabI (pc := 40) (off := 1432) (tgt := 1472) dL_law_40 (by unfold zR; omega) (by decide) (by decide) (by decide) (by decide) (lw_release hL h0 (by omega) (by omega) (by omega) hI hk)
    · rw [hj]; exact rs_tabI (pc := 40) (off := 1488) (tgt := 1528) dL_law_40 (by unfold zR; omega) (by decide) (by decide) (by decide) (by decide) (lw_setDrift hL h0 (by omega) (by omega) (by omega) hI hk)
    · rw [hj]; exact rs_tabI (pc := 40) (off := 1544) (tgt := 1584) dL_law_40 (by unfold zR; omega) (by decide) (by decide) (by decide) (by decide) (lw_setPlayer hL h0 (by omega) (by omega) (by omega) hI hk)
    · rw [hj]; exact rs_tabI (pc := 40) (off := 1624) (tgt := 1664) dL_law_40 (by unfold zR; omega) (by decide) (by decide) (by decide) (by decide) (lw_mark hL h0 (by omega) (by omega) (by omega) hI hk)
    · rw [hj]; exact rs_tabI (pc := 40) (off := 1692) (tgt := 1732) dL_law_40 (by unfold zR; omega) (by decide) (by decide) (by decide) (by decide) (lw_undo hL h0 (by omega) (by omega) (by omega) hI hk)
    · rw [hj]; exact rs_tabI (pc := 40) (off := 1736) (tgt := 1776) dL_law_40 (by unfold zR; omega) (by decide) (by decide) (by decide) (by decide) (lw_save hL h0 (by omega) (by omega) (by omega) hI hk)
    · rw [hj]; exact rs_tabI (pc := 40) (off := 1772) (tgt := 1812) dL_law_40 (by unfold zR; omega) (by decide) (by decide) (by decide) (by decide) (lw_restore hL h0 (by omega) (by omega) (by omega) hI hk)
    · rw [hj]; exact rs_tabI (pc := 40) (off := 1828) (tgt := 1868) dL_law_40 (by unfold zR; omega) (by decide) (by decide) (by decide) (by decide) (lw_writeCourt hL h0 (by omega) (by omega) (by omega) hI hk)
    · rw [hj]; exact rs_tabI (pc := 40) (off := 1841) (tgt := 1881) dL_law_40 (by unfold zR; omega) (by decide) (by decide) (by decide) (by decide) (lw_writtenByte hL h0 (by omega) (by omega) (by omega) hI hk)
