theorem iup_comm {a : Int → Int} {i j x y : Int} (h : i ≠ j) : iup (iup a i x) j y = iup (iup a j y) i x := by
  funext k
  unfold iup
  by_cases h1 : k = i
  · subst h1; rw [if_neg h, if_pos rfl, if_pos rfl]
  · rw [if_neg h1, if_neg h1]
theorem iup_iup {a : Int → Int} {i x y : Int} : iup (iup a i x) i y = iup a i y := by
  funext k
  unfold iup
  by_cases h1 : k = i
  · rw [if_pos h1, if_pos h1]
  · rw [if_neg h1, if_neg h1, if_neg h1]
theorem aLd_up {P : Int → Bool} {j v : Int} (hj : j < 18 ∨ 58 ≤ j) : ∀ (n : Nat) (s : Int) (a : Int → Int), 1 ≤ s → s + n ≤ 21 → aLd P n s (iup a j v) = iup (aLd P n s a) j v := by
  intro n
  induction n with
  | zero => intro s a _ _; rfl
  | succ n ih =>
    intro s a h1 h2
    rw [aLd_st, aLd_st]
    split
    · rw [iup_n (show 18 + 2 * (s - 1) + 1 ≠ j by omega), iup_comm (show j ≠ 18 + 2 * (s - 1) + 1 by omega), ih _ _ (by omega) (by omega)]
    · exact ih _ _ (by omega) (by omega)
theorem aLand_up {T : Int} {a : Int → Int} {r j v : Int} {P : Int → Bool} (hw : zWf T a) (hj : j = 6 ∨ j = 7 ∨ 58 ≤ j) : aLand (iup a j v) r P = iup (aLand a r P) j v := by
  have h10 := hw.2.1
  have h0 : iup a j v 0 = a 0 := iup_n (by omega)
  unfold aLand
  rw [h0]
  by_cases hr : r < 0 ∨ a 0 ≤ r
  · rw [if_pos hr, if_pos hr]
  · rw [if_neg hr, if_neg hr]
    have h := aRow_in hw (r := r) (by omega) (by omega)
    have hsq := zWf.sq hw
    rw [aF_cg (a := a) (fun i g1 g2 => iup_n (by omega)) _ (by omega), show iup a j v (8 + r) = a (8 + r) from iup_n (by omega)]
    exact aLd_up (by omega) _ _ _ (by omega) (by omega)
theorem aLands_up {P : Int → Bool} {j v : Int} (hj : j = 6 ∨ j = 7 ∨ 58 ≤ j) : ∀ (R : List Int) (T : Int) (a : Int → Int), zWf T a → T + R.length ≤ 100000000 → aLands P R (iup a j v) = iup (aLands P R a) j v := by
  intro R
  induction R with
  | nil => intro T a _ _; rfl
  | cons r t ih =>
    intro T a hw hT
    have h9 : ((r :: t).length : Int) = (t.length : Int) + 1 := by simp
    rw [h9] at hT
    show aLands P t (aLand (iup a j v) r P) = iup (aLands P t (aLand a r P)) j v
    rw [aLand_up hw hj]
    exact ih (T + 1) _ (aLand_wf hw (by omega)) (by omega)
theorem aMkH_up {T : Int} {a : Int → Int} {P : Int → Bool} {R : List Int} {j v : Int} (hw : zWf T a) (hT : T + R.length ≤ 100000000) (hj : j = 7 ∨ 58 ≤ j) : aMkH (iup a j v) P R = iup (aMkH a P R) j v := by
  unfold aMkH
  rw [aLands_up (by omega) R T a hw hT, iup_n (show (6 : Int) ≠ j by omega), iup_comm (by omega)]
theorem z_drop1 {R : List Int} {i : Nat} (h : i + 1 = R.length) : R.drop i = [R.getD i 0] := by
  rw [z_drop (by omega), List.drop_of_length_le (by omega)]
theorem eX7_hops {W : zWd} {a : Int → Int} {T : Int} {p b own : Int} {l : List Nat}  {Q : Option Value → zWd → Prop} {X : zX} (ha : W 117 = a) (hw : zWf T a) (hp0 : 0 ≤ p) (hp1 : p < a 2) (hb : b = 0 ∨ b = 1) (ho : zR own) (hT : T + 40 ≤ 100000000) (hl : zLy W l) (h9 : zWy9 l (a 0 + 1).toNat) (hq : ∀ W' : zWd, zOfm W W' → W' 117 = aMkH a (aPr a p own) (l.map (fun k : Nat => zRa b (a 0 + 1) k)) → Q none W') : Ev MX7_hops 3 0 W [.ref 116, zI p, zI b, zI own] Q X := by
  refine ev_of (ls := [.ref 116, zI p, zI b, zI own, .null, .null, .null, .null]) (by decide) rfl (fun _ => rfl) (fun _ => Nat.le_of_ble_eq_true rfl) (Or.inl rfl) ?_
  obtain ⟨w0, w0', wW, w1, w2, w2', w3, w3', w4, w4', w5, w5', w6, w6', w7, w7', wS, wP, wT⟩ := id hw
  have wq := zWf.sq hw
  have h11 := h9.1
  have hRl : (l.map (fun k : Nat => zRa b (a 0 + 1) k)).length = l.length := List.length_map _
  have hSb : ∀ i : Nat, aUse (iup a 6 (a 6 + l.length)) p own i = aUse a p own i := fun i => aUse_cgO (iup_n (by omega)) (by unfold aO; rw [iup_n (by omega)]) (fun q => by unfold aP; rw [iup_n (by omega)])
  have loop : ∀ (n : Nat) (i : Nat) (Wi : zWd) (x5 x6 x7 : Value), i ≤ l.length - 1 → zOfm W Wi → zWf (T + 11 + 2 * i) (Wi 117) → zSame (iup a 6 (a 6 + l.length)) (Wi 117) → aLands (aPr a p own) ((l.map (fun k : Nat => zRa b (a 0 + 1) k)).drop i) (Wi 117) = aLands (aPr a p own) (l.map (fun k : Nat => zRa b (a 0 + 1) k)) (iup a 6 (a 6 + l.length)) → l.length - 1 - i < n → RR MX7_hops 3 0 Wi 17 [.ref 116, zI p, zI b, zI own, zI (i : Int), x5, x6, x7] [] (zEnd MX7_hops Q X) X := by
    intro n
    induction n with
    | zero => intro i Wi x5 x6 x7 _ _ _ _ _ hm9; omega
    | succ n ih =>
      intro i Wi x5 x6 x7 hi hO hF hS hL hm9
      have e116 : Wi 116 = W 116 := hO 116 (by decide)
      have e126 : Wi 126 = W 126 := hO 126 (by decide)
      have e0 : Wi 117 0 = a 0 := (hS.1 0 (by omega)).trans (iup_n (by omega))
      refine rr_iload (pc := 17) dX7_hops_17 rfl ?_
      refine rr_aload_n (pc := 19) dX7_hops_19 rfl ?_
      refine rr_getI (pc := 20) (ji := 21) dX7_hops_20 fX7_260 zk_116 zr_116_21 rfl ?_
      rw [e116, hl.1]
      refine rr_iconst (n := 1) dX7_hops_23 ?_
      refine rr_isub (pc := 24) dX7_hops_24 ?_
      refine rr_icmp_ge (pc := 25) (tgt := 115) dX7_hops_25 (by decide) (by unfold zR; omega) (by unfold zR; omega) (fun h25 => ?_) (fun h25 => ?_)
      · have hfin : Wi 117 = aMkH a (aPr a p own) (l.map (fun k : Nat => zRa b (a 0 + 1) k)) := by
          have e9 : aMkH a (aPr a p own) (l.map (fun k : Nat => zRa b (a 0 + 1) k)) = aLands (aPr a p own) (l.map (fun k : Nat => zRa b (a 0 + 1) k)) (iup a 6 (a 6 + l.length)) := by
            unfold aMkH
            rw [hRl, aLands_up (by omega) _ T a hw (by rw [hRl]; omega)]
          rw [e9, ← hL]
          rcases Nat.eq_zero_or_pos l.length with z | z
          · have z9 : l = [] := List.length_eq_zero_iff.mp z
            subst z9
            rw [List.map_nil, List.drop_nil]; rfl
          · rw [z_drop1 (by rw [hRl]; omega), z_mapD (by omega), show i = l.length - 1 by omega, h9.2.2 z]
            show Wi 117 = aLand (Wi 117) _ _
            unfold aLand
            rw [if_pos (by rw [e0]; unfold zRa; split <;> omega)]
        exact rr_retv (pc := 115) dX7_hops_115 rfl rfl (hq Wi hO hfin)
      · refine rr_aload_n (pc := 28) dX7_hops_28 rfl ?_
        refine rr_aload_n (pc := 29) dX7_hops_29 rfl ?_
        refine rr_getR (pc := 30) dX7_hops_30 fX7_42 zk_116 zr_116_19 ?_
        refine rr_iload (pc := 33) dX7_hops_33 rfl ?_
        refine rr_iald (pc := 35) dX7_hops_35 zk_126 (by omega) (by omega) ?_
        rw [e126, hl.2 i (by omega)]
        obtain ⟨m1, m2⟩ := h9.2.1 i (by omega)
        refine rr_iload_n (pc := 36) dX7_hops_36 rfl ?_
        refine rr_inv0 (M' := MX7_rowAt) (k := 116) (As := [_, _]) (pc := 37) dX7_hops_37 lX7_248 kX7_rowAt vX7_rowAt zk_116 (by decide) rfl (by decide) (by decide) (Nat.le_of_ble_eq_true rfl) rfl (eX7_rowAt hb ?_)
        rw [e0]
        have hr9 : 0 ≤ zRa b (a 0 + 1) (l.getD i 0 : Nat) ∧ zRa b (a 0 + 1) (l.getD i 0 : Nat) < a 0 := by unfold zRa; split <;> omega
        have hRi := z_mapD (f := fun k : Nat => zRa b (a 0 + 1) k) (show i < l.length by omega)
        have hL2 := hL
        rw [z_drop (show i < (l.map (fun k : Nat => zRa b (a 0 + 1) k)).length by rw [hRl]; omega), hRi] at hL2
        generalize zRa b (a 0 + 1) (l.getD i 0 : Nat) = r at hr9 hL2 ⊢
        refine rr_istore (pc := 40) dX7_hops_40 (by decide) ?_
        refine rr_aload_n (pc := 42) dX7_hops_42 rfl ?_
        refine rr_iload (pc := 43) dX7_hops_43 rfl ?_
        refine rr_inv0 (M' := MX7_firstOf) (k := 116) (As := [_]) (pc := 45) dX7_hops_45 lX7_212 kX7_firstOf vX7_firstOf zk_116 (by decide) rfl (by decide) (by decide) (Nat.le_of_ble_eq_true rfl) rfl (eX7_firstOf hr9.1 (by omega) ?_)
        refine rr_istore (pc := 48) dX7_hops_48 (by decide) ?_
        refine rr_iload (pc := 50) dX7_hops_50 rfl ?_
        refine rr_istore (pc := 52) dX7_hops_52 (by decide) ?_
        refine eX7_hopsI (T := T + 11 + 2 * i) (a := a) hF (by omega) (fun i => hS.use.trans (hSb i)) (by unfold zR; omega) ho hr9.1 (by rw [e0]; exact hr9.2) rfl rfl rfl (fun W2 x7' o2 e2 => ?_)
        refine rr_iinc (pc := 109) dX7_hops_109 rfl (by decide) ?_
        refine rr_goto (pc := 112) (tgt := 17) dX7_hops_112 (by decide) ?_
        exact ih (i + 1) W2 _ _ _ (by omega) (hO.tr o2) (by rw [e2, show T + 11 + 2 * ((i + 1 : Nat) : Int) = T + 11 + 2 * (i : Int) + 2 by omega]; exact (aLand_wf hF (by omega)).mono (by omega) (by omega)) (by rw [e2]; exact hS.tr (zSame.land hF)) (by rw [e2]; exact hL2) (by omega)
  refine rr_aload_n (pc := 0) dX7_hops_0 rfl ?_
  refine rr_getR (pc := 1) dX7_hops_1 fX7_7 zk_116 zr_116_0 ?_
  refine rr_bipush (n := (6)) dX7_hops_4 ?_
  refine rr_dup2 (pc := 6) dX7_hops_6 ?_
  refine rr_iald (pc := 7) dX7_hops_7 zk_117 (by omega) (by omega) ?_
  rw [ha]
  refine rr_aload_n (pc := 8) dX7_hops_8 rfl ?_
  refine rr_getI (pc := 9) (ji := 21) dX7_hops_9 fX7_260 zk_116 zr_116_21 rfl ?_
  rw [hl.1]
  refine rr_iadd (pc := 12) dX7_hops_12 ?_
  refine rr_iast (pc := 13) dX7_hops_13 zk_117 (by omega) (by omega) ?_
  refine rr_iconst (n := 0) dX7_hops_14 ?_
  refine rr_istore (pc := 15) dX7_hops_15 (by decide) ?_
  refine loop _ 0 (zup W 117 6 (a 6 + l.length)) _ _ _ (Nat.zero_le _) zOfm.rf.up ?_ (by rw [zup_at, ha]; exact zSame.rf) (by rw [zup_at, ha, List.drop_zero]) (Nat.lt_succ_self _)
  rw [zup_at, ha, show T + 11 + 2 * ((0 : Nat) : Int) = T + 11 by omega]
  exact WF_0 (hw.mono (by omega) (by omega)) (Or.inr (Or.inr ⟨Or.inr (Or.inl rfl), by omega, by omega⟩))
