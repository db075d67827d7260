/-! hops -/
theorem aUse_cgO {a a' : Int → Int} {p own : Int} {i : Nat} (h2 : a' 2 = a 2) (hO : aO a' i = aO a i) (h5 : ∀ q : Nat, aP a' q 5 = aP a q 5) : aUse a' p own i = aUse a p own i := by
  unfold aUse aForb
  rw [hO, h2, zMks_cg (a := a) (a' := a') _ (fun q _ => h5 q)]
theorem aLd_st {P : Int → Bool} {n : Nat} {s : Int} {a : Int → Int} : aLd P (n + 1) s a = aLd P n (s + 1) (if P s = true then iup a (18 + 2 * (s - 1) + 1) (a (18 + 2 * (s - 1) + 1) + 1) else a) := rfl
theorem aLd_P5 (P : Int → Bool) : ∀ (n : Nat) (s : Int) (a : Int → Int) (j : Int), s + n ≤ 21 → 58 ≤ j → aLd P n s a j = a j := by
  intro n
  induction n with
  | zero => intro s a j _ _; rfl
  | succ n ih =>
    intro s a j h1 h2
    rw [aLd_st, ih _ _ j (by omega) h2]
    split
    · exact iup_n (by omega)
    · rfl
/-- what stays while a player hops -/
def zSame (a b : Int → Int) : Prop := (∀ j : Int, j < 18 → b j = a j) ∧ (∀ s : Int, aO b s = aO a s) ∧ ∀ j : Int, 58 ≤ j → b j = a j
theorem zSame.rf {a : Int → Int} : zSame a a := ⟨fun _ _ => rfl, fun _ => rfl, fun _ _ => rfl⟩
theorem zSame.tr {a b c : Int → Int} (h : zSame a b) (h2 : zSame b c) : zSame a c := ⟨fun j g => (h2.1 j g).trans (h.1 j g), fun s => (h2.2.1 s).trans (h.2.1 s), fun j g => (h2.2.2 j g).trans (h.2.2 j g)⟩
theorem zSame.P {a b : Int → Int} (h : zSame a b) {q : Nat} {w : Int} (hw : 0 ≤ w) : aP b q w = aP a q w := h.2.2 _ (by omega)
theorem zSame.up {a : Int → Int} {s v : Int} (h1 : 1 ≤ s) (h2 : s ≤ 20) : zSame a (iup a (18 + 2 * (s - 1) + 1) v) := ⟨fun j g => iup_n (by omega), fun s' => aO_S1, fun j g => iup_n (by omega)⟩
theorem zSame.use {a b : Int → Int} (h : zSame a b) {p own : Int} {i : Nat} : aUse b p own i = aUse a p own i := aUse_cgO (h.1 2 (by omega)) (h.2.1 _) (fun q => h.P (by omega))
theorem zSame.ld {P : Int → Bool} : ∀ (n : Nat) (s : Int) (a : Int → Int), 1 ≤ s → s + n ≤ 21 → zSame a (aLd P n s a) := by
  intro n
  induction n with
  | zero => intro s a _ _; exact zSame.rf
  | succ n ih =>
    intro s a h1 h2
    rw [aLd_st]
    split
    · exact (zSame.up h1 (by omega)).tr (ih _ _ (by omega) (by omega))
    · exact ih _ _ (by omega) (by omega)
theorem zSame.land {T : Int} {a : Int → Int} {r : Int} {P : Int → Bool} (hw : zWf T a) : zSame a (aLand a r P) := by
  unfold aLand
  split
  · exact zSame.rf
  · have h := aRow_in hw (r := r) (by omega) (by omega)
    have := zWf.sq hw
    exact zSame.ld _ _ _ (by omega) (by omega)
theorem zWf.up1 {T : Int} {a : Int → Int} {s : Int} (hw : zWf T a) (hT : T + 1 ≤ 100000000) (h1 : 1 ≤ s) (h2 : s ≤ a 1) : zWf (T + 1) (iup a (18 + 2 * (s - 1) + 1) (a (18 + 2 * (s - 1) + 1) + 1)) := by
  have hsq := zWf.sq hw
  have h9 := hw.2.2.2.2.2.2.2.2.2.2.2.2.2.2.2.2.1 s h1 h2
  unfold aL at h9
  exact WF_S (o := 1) (v := a (18 + 2 * (s - 1) + 1) + 1) (hw.mono (by omega) hT) h1 (by omega) (Or.inr ⟨rfl, by omega, by omega⟩)
theorem dX7_hops_0 : decode cX7_hops 0 = .ok (.aload_n 0, 1) := by decide +kernel
theorem dX7_hops_1 : decode cX7_hops 1 = .ok (.getfield 7, 3) := by decide +kernel
theorem dX7_hops_4 : decode cX7_hops 4 = .ok (.bipush 6, 2) := by decide +kernel
theorem dX7_hops_6 : decode cX7_hops 6 = .ok (.dup2, 1) := by decide +kernel
theorem dX7_hops_7 : decode cX7_hops 7 = .ok (.iaload, 1) := by decide +kernel
theorem dX7_hops_8 : decode cX7_hops 8 = .ok (.aload_n 0, 1) := by decide +kernel
theorem dX7_hops_9 : decode cX7_hops 9 = .ok (.getfield 260, 3) := by decide +kernel
theorem dX7_hops_12 : decode cX7_hops 12 = .ok (.iadd, 1) := by decide +kernel
theorem dX7_hops_13 : decode cX7_hops 13 = .ok (.iastore, 1) := by decide +kernel
theorem dX7_hops_14 : decode cX7_hops 14 = .ok (.iconst 0, 1) := by decide +kernel
theorem dX7_hops_15 : decode cX7_hops 15 = .ok (.istore 4, 2) := by decide +kernel
theorem dX7_hops_17 : decode cX7_hops 17 = .ok (.iload 4, 2) := by decide +kernel
theorem dX7_hops_19 : decode cX7_hops 19 = .ok (.aload_n 0, 1) := by decide +kernel
theorem dX7_hops_20 : decode cX7_hops 20 = .ok (.getfield 260, 3) := by decide +kernel
theorem dX7_hops_23 : decode cX7_hops 23 = .ok (.iconst 1, 1) := by decide +kernel
theorem dX7_hops_24 : decode cX7_hops 24 = .ok (.isub, 1) := by decide +kernel
theorem dX7_hops_25 : decode cX7_hops 25 = .ok (.if_icmp .ge 90, 3) := by decide +kernel
theorem dX7_hops_28 : decode cX7_hops 28 = .ok (.aload_n 0, 1) := by decide +kernel
theorem dX7_hops_29 : decode cX7_hops 29 = .ok (.aload_n 0, 1) := by decide +kernel
theorem dX7_hops_30 : decode cX7_hops 30 = .ok (.getfield 42, 3) := by decide +kernel
theorem dX7_hops_33 : decode cX7_hops 33 = .ok (.iload 4, 2) := by decide +kernel
theorem dX7_hops_35 : decode cX7_hops 35 = .ok (.iaload, 1) := by decide +kernel
theorem dX7_hops_36 : decode cX7_hops 36 = .ok (.iload_n 2, 1) := by decide +kernel
theorem dX7_hops_37 : decode cX7_hops 37 = .ok (.invokevirtual 248, 3) := by decide +kernel
theorem dX7_hops_40 : decode cX7_hops 40 = .ok (.istore 5, 2) := by decide +kernel
theorem dX7_hops_42 : decode cX7_hops 42 = .ok (.aload_n 0, 1) := by decide +kernel
theorem dX7_hops_43 : decode cX7_hops 43 = .ok (.iload 5, 2) := by decide +kernel
theorem dX7_hops_45 : decode cX7_hops 45 = .ok (.invokevirtual 212, 3) := by decide +kernel
theorem dX7_hops_48 : decode cX7_hops 48 = .ok (.istore 6, 2) := by decide +kernel
theorem dX7_hops_50 : decode cX7_hops 50 = .ok (.iload 6, 2) := by decide +kernel
theorem dX7_hops_52 : decode cX7_hops 52 = .ok (.istore 7, 2) := by decide +kernel
theorem dX7_hops_54 : decode cX7_hops 54 = .ok (.iload 7, 2) := by decide +kernel
theorem dX7_hops_56 : decode cX7_hops 56 = .ok (.iload 6, 2) := by decide +kernel
theorem dX7_hops_58 : decode cX7_hops 58 = .ok (.aload_n 0, 1) := by decide +kernel
theorem dX7_hops_59 : decode cX7_hops 59 = .ok (.getfield 7, 3) := by decide +kernel
theorem dX7_hops_62 : decode cX7_hops 62 = .ok (.bipush 8, 2) := by decide +kernel
theorem dX7_hops_64 : decode cX7_hops 64 = .ok (.iload 5, 2) := by decide +kernel
theorem dX7_hops_66 : decode cX7_hops 66 = .ok (.iadd, 1) := by decide +kernel
theorem dX7_hops_67 : decode cX7_hops 67 = .ok (.iaload, 1) := by decide +kernel
theorem dX7_hops_68 : decode cX7_hops 68 = .ok (.iadd, 1) := by decide +kernel
theorem dX7_hops_69 : decode cX7_hops 69 = .ok (.if_icmp .ge 40, 3) := by decide +kernel
theorem dX7_hops_72 : decode cX7_hops 72 = .ok (.aload_n 0, 1) := by decide +kernel
theorem dX7_hops_73 : decode cX7_hops 73 = .ok (.iload_n 1, 1) := by decide +kernel
theorem dX7_hops_74 : decode cX7_hops 74 = .ok (.iload 7, 2) := by decide +kernel
theorem dX7_hops_76 : decode cX7_hops 76 = .ok (.iload_n 3, 1) := by decide +kernel
theorem dX7_hops_77 : decode cX7_hops 77 = .ok (.invokevirtual 228, 3) := by decide +kernel
theorem dX7_hops_80 : decode cX7_hops 80 = .ok (.ifCond .eq 23, 3) := by decide +kernel
theorem dX7_hops_83 : decode cX7_hops 83 = .ok (.aload_n 0, 1) := by decide +kernel
theorem dX7_hops_84 : decode cX7_hops 84 = .ok (.getfield 7, 3) := by decide +kernel
theorem dX7_hops_87 : decode cX7_hops 87 = .ok (.bipush 18, 2) := by decide +kernel
theorem dX7_hops_89 : decode cX7_hops 89 = .ok (.iconst 2, 1) := by decide +kernel
theorem dX7_hops_90 : decode cX7_hops 90 = .ok (.iload 7, 2) := by decide +kernel
theorem dX7_hops_92 : decode cX7_hops 92 = .ok (.iconst 1, 1) := by decide +kernel
theorem dX7_hops_93 : decode cX7_hops 93 = .ok (.isub, 1) := by decide +kernel
theorem dX7_hops_94 : decode cX7_hops 94 = .ok (.imul, 1) := by decide +kernel
theorem dX7_hops_95 : decode cX7_hops 95 = .ok (.iadd, 1) := by decide +kernel
theorem dX7_hops_96 : decode cX7_hops 96 = .ok (.iconst 1, 1) := by decide +kernel
theorem dX7_hops_97 : decode cX7_hops 97 = .ok (.iadd, 1) := by decide +kernel
theorem dX7_hops_98 : decode cX7_hops 98 = .ok (.dup2, 1) := by decide +kernel
theorem dX7_hops_99 : decode cX7_hops 99 = .ok (.iaload, 1) := by decide +kernel
theorem dX7_hops_100 : decode cX7_hops 100 = .ok (.iconst 1, 1) := by decide +kernel
theorem dX7_hops_101 : decode cX7_hops 101 = .ok (.iadd, 1) := by decide +kernel
theorem dX7_hops_102 : decode cX7_hops 102 = .ok (.iastore, 1) := by decide +kernel
theorem dX7_hops_103 : decode cX7_hops 103 = .ok (.iinc 7 1, 3) := by decide +kernel
theorem dX7_hops_106 : decode cX7_hops 106 = .ok (.goto (-52), 3) := by decide +kernel
theorem dX7_hops_109 : decode cX7_hops 109 = .ok (.iinc 4 1, 3) := by decide +kernel
theorem dX7_hops_112 : decode cX7_hops 112 = .ok (.goto (-95), 3) := by decide +kernel
theorem dX7_hops_115 : decode cX7_hops 115 = .ok (.return_, 1) := by decide +kernel
theorem eX7_hopsI {W : zWd} {a c : Int → Int} {T p b own k r f w : Int} {Q : Option Value → zWd → Prop} {X : zX} (hw : zWf T (W 117)) (hT : T + 2 ≤ 100000000) (hS0 : ∀ i : Nat, aUse (W 117) p own i = aUse a p own i) (hz : zR p) (ho : zR own) (h0 : 0 ≤ r) (h1 : r < W 117 0) (hf : f = aF (W 117) r.toNat) (hw9 : W 117 (8 + r) = w) (hc : aLand (W 117) r (aPr a p own) = c)
    (tail : ∀ (W' : zWd) (x7 : Value), zOfm W W' → W' 117 = c → RR MX7_hops 3 0 W' 109 [.ref 116, zI p, zI b, zI own, zI k, zI r, zI f, x7] [] (zEnd MX7_hops Q X) X) : RR MX7_hops 3 0 W 54 [.ref 116, zI p, zI b, zI own, zI k, zI r, zI f, zI f] [] (zEnd MX7_hops Q X) X := by
  have hri := aRow_in hw h0 h1
  have hww := hw.2.2.1 r h0 h1
  have h10 := hw.2.1
  have hsq0 := zWf.sq hw
  rw [hw9] at hri hww
  rw [← hf] at hri
  unfold aLand at hc
  rw [if_neg (by omega), hw9, ← hf] at hc
  have loop : ∀ (n : Nat) (i : Int) (Wi : zWd), f ≤ i → i ≤ f + w → zOfm W Wi → zWf (T + (i - f)) (Wi 117) → zSame (W 117) (Wi 117) → aLd (aPr a p own) (f + w - i).toNat i (Wi 117) = c → (f + w - i).toNat < n → RR MX7_hops 3 0 Wi 54 [.ref 116, zI p, zI b, zI own, zI k, zI r, zI f, zI i] [] (zEnd MX7_hops Q X) X := by
    intro n
    induction n with
    | zero => intro i Wi _ _ _ _ _ _ hm9; omega
    | succ n ih =>
      intro i Wi h1 h2 hO hF hS hL hm9
      have hsq := zWf.sq hF
      have hwi : Wi 117 (8 + r) = w := (hS.1 _ (by omega)).trans hw9
      have h11 := hS.1 1 (by omega)
      refine rr_iload (pc := 54) dX7_hops_54 rfl ?_
      refine rr_iload (pc := 56) dX7_hops_56 rfl ?_
      refine rr_aload_n (pc := 58) dX7_hops_58 rfl ?_
      refine rr_getR (pc := 59) dX7_hops_59 fX7_7 zk_116 zr_116_0 ?_
      refine rr_bipush (n := (8)) dX7_hops_62 ?_
      refine rr_iload (pc := 64) dX7_hops_64 rfl ?_
      refine rr_iadd (pc := 66) dX7_hops_66 ?_
      refine rr_iald (pc := 67) dX7_hops_67 zk_117 (by omega) (by omega) ?_
      rw [hwi]
      refine rr_iadd (pc := 68) dX7_hops_68 ?_
      refine rr_icmp_ge (pc := 69) (tgt := 109) dX7_hops_69 (by decide) (by unfold zR; omega) (by unfold zR; omega) (fun h69 => ?_) (fun h69 => ?_)
      · rw [show (f + w - i).toNat = 0 by omega] at hL
        exact tail Wi _ hO hL
      · rw [show (f + w - i).toNat = (f + w - (i + 1)).toNat + 1 by omega, aLd_st] at hL
        refine rr_aload_n (pc := 72) dX7_hops_72 rfl ?_
        refine rr_iload_n (pc := 73) dX7_hops_73 rfl ?_
        refine rr_iload (pc := 74) dX7_hops_74 rfl ?_
        refine rr_iload_n (pc := 76) dX7_hops_76 rfl ?_
        refine rr_inv0 (M' := MX7_isUsable) (k := 116) (As := [_, _, _]) (pc := 77) dX7_hops_77 lX7_228 kX7_isUsable vX7_isUsable zk_116 (by decide) rfl (by decide) (by decide) (Nat.le_of_ble_eq_true rfl) rfl (eX7_isUsable rfl hF (by omega) (by omega) hz ho ?_)
        rw [show aUse (Wi 117) p own i.toNat = aUse a p own i.toNat from hS.use.trans (hS0 _)]
        refine rr_if_eq (pc := 80) (tgt := 103) dX7_hops_80 (by decide) (by split <;> (unfold zR; omega)) (fun h80 => ?_) (fun h80 => ?_)
        · refine rr_iinc (pc := 103) dX7_hops_103 rfl (by decide) ?_
          refine rr_goto (pc := 106) (tgt := 54) dX7_hops_106 (by decide) ?_
          rw [if_neg (show ¬ aPr a p own i = true from z_i10 h80)] at hL
          exact ih (i + 1) Wi (by omega) (by omega) hO (hF.mono (by omega) (by omega)) hS hL (by omega)
        · rw [if_pos (show aPr a p own i = true from z_i10n h80)] at hL
          have hF2 := hF.up1 (s := i) (by omega) (by omega) (by omega)
          refine rr_aload_n (pc := 83) dX7_hops_83 rfl ?_
          refine rr_getR (pc := 84) dX7_hops_84 fX7_7 zk_116 zr_116_0 ?_
          refine rr_bipush (n := (18)) dX7_hops_87 ?_
          refine rr_iconst (n := 2) dX7_hops_89 ?_
          refine rr_iload (pc := 90) dX7_hops_90 rfl ?_
          refine rr_iconst (n := 1) dX7_hops_92 ?_
          refine rr_isub (pc := 93) dX7_hops_93 ?_
          refine rr_imul (pc := 94) dX7_hops_94 ?_
          refine rr_iadd (pc := 95) dX7_hops_95 ?_
          refine rr_iconst (n := 1) dX7_hops_96 ?_
          refine rr_iadd (pc := 97) dX7_hops_97 ?_
          refine rr_dup2 (pc := 98) dX7_hops_98 ?_
          refine rr_iald (pc := 99) dX7_hops_99 zk_117 (by omega) (by omega) ?_
          refine rr_iconst (n := 1) dX7_hops_100 ?_
          refine rr_iadd (pc := 101) dX7_hops_101 ?_
          refine rr_iast (pc := 102) dX7_hops_102 zk_117 (by omega) (by omega) ?_
          refine rr_iinc (pc := 103) dX7_hops_103 rfl (by decide) ?_
          refine rr_goto (pc := 106) (tgt := 54) dX7_hops_106 (by decide) ?_
          exact ih (i + 1) _ (by omega) (by omega) hO.up (by rw [zup_at, show T + (i + 1 - f) = T + (i - f) + 1 by omega]; exact hF2) (by rw [zup_at]; exact hS.tr (zSame.up (by omega) (by omega))) (by rw [zup_at]; exact hL) (by omega)
  exact loop _ f W (by omega) (by omega) zOfm.rf (by rw [show T + (f - f) = T by omega]; exact hw) zSame.rf (by rw [show (f + w - f).toNat = w.toNat by omega]; exact hc) (Nat.lt_succ_self _)
theorem zHp_mid {F : Nat → Int} {L must rc bal : Nat} : ∀ n k s, zV F L must rc bal k s < 1000000 → k ≤ L → ∀ i, i + 1 < (zHp F L must rc bal n k s).length → (zHp F L must rc bal n k s).getD i 0 < L := by
  intro n
  induction n with
  | zero => intro k s _ _ i hi; exact absurd hi (Nat.not_lt_zero _)
  | succ n ih =>
    intro k s hv hk i hi
    unfold zHp at hi ⊢
    by_cases q : k = L
    · rw [if_pos q] at hi; exact absurd hi (Nat.not_lt_zero _)
    · rw [if_neg q] at hi ⊢
      obtain ⟨n1, n2, n3, n5, -, -⟩ := zNx_spec (F := F) (L := L) (must := must) (rc := rc) (bal := bal) (k := k) (run := s) (by omega) hv
      cases i with
      | zero =>
        show zNx F L must rc bal k s < L
        rcases Nat.lt_or_ge (zNx F L must rc bal k s) L with z | z
        · exact z
        · have e : zNx F L must rc bal k s = L := Nat.le_antisymm n3.1 z
          rw [e, zHp_L] at hi
          exact absurd hi (by simp)
      | succ i =>
        exact ih _ _ n5 n3.1 i (by simp only [List.length_cons] at hi; omega)
theorem zHp_end {F : Nat → Int} {L must rc bal : Nat} : ∀ n k s, zV F L must rc bal k s < 1000000 → k ≤ L → L - k < n → 0 < (zHp F L must rc bal n k s).length → (zHp F L must rc bal n k s).getD ((zHp F L must rc bal n k s).length - 1) 0 = L := by
  intro n
  induction n with
  | zero => intro k s _ _ h; omega
  | succ n ih =>
    intro k s hv hk hn hi
    unfold zHp at hi ⊢
    by_cases q : k = L
    · rw [if_pos q] at hi; exact absurd hi (Nat.not_lt_zero _)
    · rw [if_neg q]
      obtain ⟨n1, n2, n3, n5, -, -⟩ := zNx_spec (F := F) (L := L) (must := must) (rc := rc) (bal := bal) (k := k) (run := s) (by omega) hv
      rcases Nat.lt_or_ge (zNx F L must rc bal k s) L with z | z
      · have h9 := ih _ (zRn F (zNx F L must rc bal k s) s) n5 n3.1 (by omega)
        have hpos : 0 < (zHp F L must rc bal n (zNx F L must rc bal k s) (zRn F (zNx F L must rc bal k s) s)).length := by
          cases n with
          | zero => omega
          | succ n => unfold zHp; rw [if_neg (by omega)]; exact Nat.succ_pos _
        have h9 := h9 hpos
        generalize zHp F L must rc bal n (zNx F L must rc bal k s) (zRn F (zNx F L must rc bal k s) s) = l at h9 hpos ⊢
        cases l with
        | nil => exact absurd hpos (Nat.not_lt_zero _)
        | cons x l => exact h9
      · have e : zNx F L must rc bal k s = L := Nat.le_antisymm n3.1 z
        rw [e, zHp_L]; rfl
/-- a way: its landings, in order; the last one is the ground -/
def zWy9 (l : List Nat) (L : Nat) : Prop := l.length ≤ 11 ∧ (∀ i, i + 1 < l.length → 1 ≤ l.getD i 0 ∧ l.getD i 0 < L) ∧ (0 < l.length → l.getD (l.length - 1) 0 = L)
theorem z_getMN {l : List Nat} {i : Nat} (h : i < l.length) : l.getD i 0 ∈ l := by
  rw [List.getD_eq_getElem?_getD, List.getElem?_eq_getElem h]; exact List.getElem_mem _
theorem aWay_w9 {a : Int → Int} {q tg : Int} {rc : Nat} {bk : Int} (h0 : 0 ≤ a 0) (h10 : a 0 ≤ 10) : zWy9 (aWay a q tg rc bk) (a 0 + 1).toNat := by
  refine ⟨aWay_len h0 h10, fun i hi => ⟨aWay_pos _ (z_getMN (by omega)), ?_⟩, fun hp => ?_⟩
  · unfold aWay at hi ⊢
    by_cases z : tg < 1 ∨ a 1 < tg
    · rw [if_pos z] at hi; exact absurd hi (Nat.not_lt_zero _)
    · rw [if_neg z] at hi ⊢
      unfold zWl at hi ⊢
      split at hi
      · rename_i hv
        rw [if_pos hv]
        exact zHp_mid _ 0 0 hv (Nat.zero_le _) i hi
      · exact absurd hi (Nat.not_lt_zero _)
  · unfold aWay at hp ⊢
    by_cases z : tg < 1 ∨ a 1 < tg
    · rw [if_pos z] at hp; exact absurd hp (Nat.not_lt_zero _)
    · rw [if_neg z] at hp ⊢
      unfold zWl at hp ⊢
      split at hp
      · rename_i hv
        rw [if_pos hv]
        exact zHp_end _ 0 0 hv (Nat.zero_le _) (by omega) hp
      · exact absurd hp (Nat.not_lt_zero _)
