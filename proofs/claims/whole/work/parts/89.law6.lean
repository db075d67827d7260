/-! what goes wrong in a text is told by a small number -/
def zE9 (r : zRs) : Prop := ∀ e, r = .inl e → zR e.1
theorem zE9.ok {g : Nat × (Int → Int)} : zE9 (.inr g) := fun e h => by cases h
theorem zE9.no {c : Int} {p : Nat} (h : -9 ≤ c ∧ c ≤ 0) : zE9 (.inl (c, p)) := fun e he => by cases he; unfold zR; omega
theorem zE9.bind {r : zRs} {f : Nat → (Int → Int) → zRs} (h : zE9 r) (hf : ∀ p a, zE9 (f p a)) : zE9 (zBind r f) := by
  cases r with
  | inl e => intro e' h'; exact h e' h'
  | inr g => exact hf _ _
theorem sNr_R {B : Nat → Int} {N p : Nat} {lo hi : Int} {e : Int × Nat} (h : sNr B N lo hi p = .inl e) : zR e.1 := by
  unfold sNr at h
  split at h
  · cases h; unfold zR; omega
  · split at h
    · cases h
    · cases h; unfold zR; omega
theorem zE9.nr {B : Nat → Int} {N p : Nat} {lo hi : Int} {F : Nat × Int → zRs} (hf : ∀ g, zE9 (F g)) : zE9 (match sNr B N lo hi p with | .inl e => .inl e | .inr g => F g) := by
  cases hs : sNr B N lo hi p with
  | inl e => intro e' h'; cases h'; exact sNr_R hs
  | inr g => exact hf g
theorem sSemi_E {B : Nat → Int} {N p : Nat} {a : Int → Int} : zE9 (sSemi B N p a) := by
  unfold sSemi
  split
  · exact zE9.ok
  · exact zE9.no (by omega)
theorem sDrift_E {B : Nat → Int} {N p : Nat} {a : Int → Int} : zE9 (sDrift B N p a) := by
  unfold sDrift
  split
  · split
    · exact zE9.nr (fun g => sSemi_E)
    · exact zE9.nr (fun g => sSemi_E)
  · exact zE9.ok
theorem sPart_E {B : Nat → Int} {N p : Nat} {a : Int → Int} {q w : Int} {wd : List Int} : zE9 (sPart B N p a q wd w) := by
  unfold sPart
  split
  · exact zE9.nr (fun g => zE9.ok)
  · exact zE9.ok
theorem sOwn_E {B : Nat → Int} {N : Nat} {q : Int} : ∀ (n p : Nat) (a : Int → Int), zE9 (sOwn B N q n p a) := by
  intro n
  induction n with
  | zero => intro p a; exact zE9.ok
  | succ n ih =>
    intro p a
    show zE9 (if _ then _ else _)
    split
    · refine zE9.nr (fun g => ?_)
      split
      · exact ih _ _
      · exact zE9.no (by omega)
    · exact zE9.ok
theorem sName_E {B : Nat → Int} {N p : Nat} {a : Int → Int} {q : Int} : zE9 (sName B N p a q) := by
  unfold sName
  split
  · exact zE9.no (by omega)
  · split
    · exact zE9.no (by omega)
    · exact zE9.ok
theorem sParts_E {B : Nat → Int} {N p : Nat} {a : Int → Int} {q : Int} : zE9 (sParts B N p a q) :=
  sPart_E.bind fun _ _ => sPart_E.bind fun _ _ => sPart_E.bind fun _ _ => sPart_E.bind fun _ _ => (sOwn_E _ _ _).bind fun _ _ => sPart_E.bind fun _ _ => sSemi_E
theorem sPlayers_E {B : Nat → Int} {N : Nat} : ∀ (n q p : Nat) (a : Int → Int), zE9 (sPlayers B N n q p a) := by
  intro n
  induction n with
  | zero => intro q p a; exact zE9.no (by omega)
  | succ n ih =>
    intro q p a
    show zE9 (if _ then _ else if _ then _ else if _ then _ else _)
    split
    · exact zE9.ok
    · split
      · exact zE9.no (by omega)
      · split
        · exact zE9.no (by omega)
        · exact sName_E.bind fun _ _ => sParts_E.bind fun _ _ => ih _ _ _
theorem sRows_E {B : Nat → Int} {N : Nat} : ∀ (n r p : Nat) (a : Int → Int), zE9 (sRows B N n r p a) := by
  intro n
  induction n with
  | zero => intro r p a; exact zE9.no (by omega)
  | succ n ih =>
    intro r p a
    show zE9 (if _ then (if _ then _ else _) else if _ then _ else _)
    split
    · split
      · exact zE9.no (by omega)
      · exact sSemi_E
    · split
      · exact zE9.no (by omega)
      · exact ih _ _ _
theorem sLoad_R {L : List Int} {e : Int × Nat} (h : sLoad L = .inl e) : zR e.1 := by
  have h9 : zE9 (sLoad L) := by
    unfold sLoad sCourt
    split
    · exact (sRows_E _ _ _ _).bind fun _ _ => sDrift_E.bind fun _ _ => sPlayers_E _ _ _ _
    · exact zE9.no (by omega)
  exact h9 e h
section ZJ
variable {W W' : zWd} {T : Int} {a : Int → Int} {n : Int} {K : Nat → (Int → Int)} {B : Int → Prop} {S : Int → (Int → Int)} {L Z : List Int} {e : Int}
theorem zIm.u {a' : Int → Int} {n' : Int} {K' : Nat → (Int → Int)} (h : zIm W a n K B S L Z e) (o : zOfu W W') (h1' : W' 117 = a') (h2' : zKp W' n' K') : zIm W' a' n' K' B S L Z e := by
  obtain ⟨h1, h2, h3, h4, h5, h6⟩ := h
  unfold zIm zSm zMB zMw at *
  rw [o.1 121 (by omega) (by omega), o.1 122 (by omega) (by omega), o.1 123 (by omega) (by omega), o.1 127 (by omega) (by omega), o.2 9 (by omega) (by omega), o.2 26 (by omega) (by omega), o.2 16 (by omega) (by omega)]
  exact ⟨h1', h2', h3, h4, h5, h6⟩
theorem zOfu.c (o : zOfu W W') : ∀ k : Nat, k < 116 → W' k = W k := fun k g => o.1 k (by omega) (by omega)
theorem zOfu.o (o : zOfu W W') : W' 128 = W 128 := o.1 128 (by omega) (by omega)
theorem zOfs.c (o : zOfs W W') : ∀ k : Nat, k < 116 → W' k = W k := fun k g => o.1 k (by omega) (by omega) (by omega)
theorem zOfB.c (o : zOfB W W') : ∀ k : Nat, k < 116 → W' k = W k := fun k g => o.1 k (by omega) (by omega)
theorem zOfB.o (o : zOfB W W') : W' 128 = W 128 := o.1 128 (by omega) (by omega)
theorem zOfLd.c (o : zOfLd W W') : ∀ k : Nat, k < 116 → W' k = W k := fun k g => o.1 k (by omega) (by omega) (by omega) (by omega)
theorem zOfW.c (o : zOfW W W') : ∀ k : Nat, k < 116 → W' k = W k := fun k g => o.1 k (by omega) (by omega)
theorem zIm.bb {L' : List Int} (h : zIm W a n K B S L Z e) (o : zOfB W W') (h4' : zMB W' L') : zIm W' a n K B S L' Z e := by
  obtain ⟨h1, h2, h3, h4, h5, h6⟩ := h
  unfold zIm zKp zSm zMw at *
  rw [o.1 117 (by omega) (by omega), o.1 120 (by omega) (by omega), o.1 121 (by omega) (by omega), o.1 122 (by omega) (by omega), o.1 127 (by omega) (by omega), o.2 6 (by omega) (by omega), o.2 26 (by omega) (by omega), o.2 16 (by omega) (by omega)]
  exact ⟨h1, h2, h3, h4', h5, h6⟩
theorem zIm.s {B' : Int → Prop} {S' : Int → (Int → Int)} (h : zIm W a n K B S L Z e) (o : zOfs W W') (h3' : zSm W' B' S') : zIm W' a n K B' S' L Z e := by
  obtain ⟨h1, h2, h3, h4, h5, h6⟩ := h
  unfold zIm zKp zMB zMw at *
  rw [o.1 117 (by omega) (by omega) (by omega), o.1 120 (by omega) (by omega) (by omega), o.1 123 (by omega) (by omega) (by omega), o.1 127 (by omega) (by omega) (by omega), o.2 6 (by omega), o.2 9 (by omega), o.2 26 (by omega), o.2 16 (by omega)]
  exact ⟨h1, h2, h3', h4, h5, h6⟩
theorem zIm.w {Z' : List Int} (h : zIm W a n K B S L Z e) (o : zOfW W W') (h5' : zMw W' Z') : zIm W' a n K B S L Z' e := by
  obtain ⟨h1, h2, h3, h4, h5, h6⟩ := h
  unfold zIm zKp zSm zMB at *
  rw [o.1 117 (by omega) (by omega), o.1 120 (by omega) (by omega), o.1 121 (by omega) (by omega), o.1 122 (by omega) (by omega), o.1 123 (by omega) (by omega), o.2 6 (by omega) (by omega), o.2 9 (by omega) (by omega), o.2 16 (by omega) (by omega)]
  exact ⟨h1, h2, h3, h4, h5', h6⟩
theorem zIm.l {a' : Int → Int} {n' : Int} {K' : Nat → (Int → Int)} {e' : Int} (h : zIm W a n K B S L Z e) (o : zOfLd W W') (h1' : W' 117 = a') (h2' : zKp W' n' K') (h4' : zMB W' []) (h6' : W' 116 16 = e') : zIm W' a' n' K' B S [] Z e' := by
  obtain ⟨h1, h2, h3, h4, h5, h6⟩ := h
  unfold zIm zSm zMw at *
  rw [o.1 121 (by omega) (by omega) (by omega) (by omega), o.1 122 (by omega) (by omega) (by omega) (by omega), o.1 127 (by omega) (by omega) (by omega) (by omega), o.2]
  exact ⟨h1', h2', h3, h4', h5, h6'⟩
theorem zIc.t {L' : List Int} (h : zIc W a n K B S L Z e) (o : zOfft2 W W') (h6' : zTL W' L') : zIc W' a n K B S L' Z e := by
  obtain ⟨h1, h2, h3, h4, h5, h6, h7, h8⟩ := h
  exact ⟨CR_off h1 (fun k g1 g2 => o.1 k (by omega) (by omega)), ⟨by rw [o.1 98 (by omega) (by omega)]; exact h2.1, by rw [o.1 103 (by omega) (by omega)]; exact h2.2⟩, fun i g1 g2 => by rw [o.1 (8 + 6) (by omega) (by omega)]; exact h3 i g1 g2, h4.off (fun k g1 g2 => o.1 k (by omega) (by omega)) (o.1 108 (by omega) (by omega)), fun i g0 g1 => by rw [o.1 111 (by omega) (by omega)]; exact (h5 i g0 g1).imp_right (fun z => ⟨z.1, z.2.1, CR_off z.2.2 (fun k g2 g3 => o.1 k (by omega) (by omega))⟩), h6', h7.k (o.1 114 (by omega) (by omega)) (o.1 115 (by omega) (by omega)), by rw [o.2 6 (by omega)]; exact h8⟩
theorem zOfft2.m (o : zOfft2 W W') : ∀ k : Nat, 116 ≤ k → k < 128 → W' k = W k := fun k g1 g2 => o.1 k (by omega) (by omega)
theorem zIc.s {B' : Int → Prop} {S' : Int → (Int → Int)} (h : zIc W a n K B S L Z e) (o : zOffs W W') (h5' : zSv W' B' S') : zIc W' a n K B' S' L Z e := by
  obtain ⟨h1, h2, h3, h4, h5, h6, h7, h8⟩ := h
  exact ⟨CR_off h1 (fun k g1 g2 => o k (by omega) (by omega)), ⟨by rw [o 98 (by omega) (by omega)]; exact h2.1, by rw [o 103 (by omega) (by omega)]; exact h2.2⟩, fun i g1 g2 => by rw [o (8 + 6) (by omega) (by omega)]; exact h3 i g1 g2, h4.off (fun k g1 g2 => o k (by omega) (by omega)) (o 108 (by omega) (by omega)), h5', h6.k (by rw [o 112 (by omega) (by omega)]) (o 113 (by omega) (by omega)), h7.k (o 114 (by omega) (by omega)) (o 115 (by omega) (by omega)), by rw [o 112 (by omega) (by omega)]; exact h8⟩
theorem zOffs.m (o : zOffs W W') : ∀ k : Nat, 116 ≤ k → k < 128 → W' k = W k := fun k g1 g2 => o k (by omega) (by omega)
theorem zIc.w {Z' : List Int} (h : zIc W a n K B S L Z e) (o : zOfft W W') (h7' : zWt W' Z') : zIc W' a n K B S L Z' e := by
  obtain ⟨h1, h2, h3, h4, h5, h6, h7, h8⟩ := h
  exact ⟨CR_off h1 (fun k g1 g2 => o k (by omega) (by omega)), ⟨by rw [o 98 (by omega) (by omega)]; exact h2.1, by rw [o 103 (by omega) (by omega)]; exact h2.2⟩, fun i g1 g2 => by rw [o (8 + 6) (by omega) (by omega)]; exact h3 i g1 g2, h4.off (fun k g1 g2 => o k (by omega) (by omega)) (o 108 (by omega) (by omega)), fun i g0 g1 => by rw [o 111 (by omega) (by omega)]; exact (h5 i g0 g1).imp_right (fun z => ⟨z.1, z.2.1, CR_off z.2.2 (fun k g2 g3 => o k (by omega) (by omega))⟩), h6.k (by rw [o 112 (by omega) (by omega)]) (o 113 (by omega) (by omega)), h7', by rw [o 112 (by omega) (by omega)]; exact h8⟩
theorem zOfft.m (o : zOfft W W') : ∀ k : Nat, 116 ≤ k → k < 128 → W' k = W k := fun k g1 g2 => o k (by omega) (by omega)
theorem zIc.l {a' : Int → Int} {n' : Int} {K' : Nat → (Int → Int)} {e' : Int} (h : zIc W a n K B S L Z e) (o : zOffL W W') (b : zByt W') (t : zTL W' []) (h8' : W' 112 6 = e') (c : zCR W' 0 a') (hi : zHi W' n' K') : zIc W' a' n' K' B S [] Z e' := by
  obtain ⟨h1, h2, h3, h4, h5, h6, h7, h8⟩ := h
  exact ⟨c, ⟨by rw [o 98 (by omega) (by omega) (by omega)]; exact h2.1, by rw [o 103 (by omega) (by omega) (by omega)]; exact h2.2⟩, b, hi, fun i g0 g1 => by rw [o 111 (by omega) (by omega) (by omega)]; exact (h5 i g0 g1).imp_right (fun z => ⟨z.1, z.2.1, CR_off z.2.2 (fun k g2 g3 => o k (by omega) (by omega) (by omega))⟩), t, h7.k (o 114 (by omega) (by omega) (by omega)) (o 115 (by omega) (by omega) (by omega)), h8'⟩
theorem zOffL.m (o : zOffL W W') : ∀ k : Nat, 116 ≤ k → k < 128 → W' k = W k := fun k g1 g2 => o k (by omega) (by omega) (by omega)
theorem zIp.save {s : Int} (h : zIp T a n K B S Z e) : zIp T a n K (fun i => i = s ∨ B i) (fun i => if i = s then a else S i) Z e := by
  refine ⟨h.1, h.2.1, fun i q0 q1 q2 => ?_, h.2.2.2⟩
  by_cases z : i = s
  · show zWf T (if i = s then a else S i) ∧ zTg (if i = s then a else S i)
    rw [if_pos z]; exact h.1
  · show zWf T (if i = s then a else S i) ∧ zTg (if i = s then a else S i)
    rw [if_neg z]; exact h.2.2.1 i q0 q1 (q2.resolve_left z)
theorem vText_len {T : Int} {a : Int → Int} (hw : zWf T a) : (vText a).length ≤ 300 := by
  have hsq := zWf.sq hw
  have h9 := @vTx_len a (a 1).toNat
  unfold vText
  omega
theorem vFirst_R {T : Int} {a : Int → Int} (hw : zWf T a) (hT : T + 7826 ≤ 100000000) : zR (vFirst a) := by
  have h9 := aUnt_wf (w := -1) 300 1 T a hw (by omega)
  have h4 := h9.2.2.2.2.2.2.2.2.1
  have h4' := h9.2.2.2.2.2.2.2.2.2.1
  have h6 := h9.2.2.2.2.2.1
  have w2 := hw.2.2.2.2.1
  have w2' := hw.2.2.2.2.2.1
  unfold vFirst zR
  split
  · omega
  · split <;> omega
end ZJ
theorem rs_tailS {b L : Nat} {xs : Nat → Int32} {t : Nat} {W : zWd} {m : Nat} {i k goff : Int} (d0 : decode cL_law m = .ok (.aload_n 2, 1)) (d1 : decode cL_law (m + 1) = .ok (.invokevirtual 108, 3)) (d4 : decode cL_law (m + 4) = .ok (.iload 5, 2)) (d6 : decode cL_law (m + 6) = .ok (.if_icmp .eq 5, 3)) (d11 : decode cL_law (m + 11) = .ok (.goto goff, 3)) (hg : ((m + 11 : Nat) : Int) + goff = ((1937 : Nat) : Int))
    (hk : W 116 7 = k) (hkr : zR k) (kk : RS b L xs t W 1937 (zLS i) []) : RS b L xs t W m [.ref 1300, .ref 96, .ref 116, .ref 128, zI i, zI k, .null, .null, .null] [] := by
  refine rs_aload_n (k := 2) d0 rfl ?_
  refine rs_inv0 (M' := MX7_thrown) (k := 116) (As := []) (pc := m + 1) d1 lL_108 kX7_thrown vX7_thrown zk_116 (by decide) rfl (by decide) (Nat.le_of_ble_eq_true rfl) (Nat.le_of_ble_eq_true rfl) rfl (eX7_thrown ?_)
  rw [hk]
  refine rs_iload (pc := m + 4) d4 rfl ?_
  refine rs_same (pc := m + 6) (tgt := m + 11) d6 (by omega) hkr ?_
  exact rs_goto d11 hg (rs_less (ls := [.ref 1300, .ref 96, .ref 116, .ref 128, zI i, zI k, .null, .null, .null]) (zLS_less (v6 := .null)) (Nat.le_refl _) kk)
theorem lw_claim {b L : Nat} {xs : Nat → Int32} {t : Nat} {W : zWd} {T i : Int} (hL : L ≤ 3072) (h0 : 0 ≤ i) (h1 : i + 6 ≤ L) (ht : 2 ≤ t) (hT : T + 8000 ≤ 100000000) (hI : zIv W T) (k : ∀ (W' : zWd) (t' : Nat), t - 2 ≤ t' → zIv W' (T + 26) → RS b L xs t' W' 1937 (zLS i) []) : RS b L xs t W 1404 (zLS i) [] := by
  obtain ⟨a, n, K, B, S, TL, Z, e, hc, hm, hp⟩ := hI
  have hw := hp.1.1
  have hg := hp.1.2
  refine rs_aload_n (k := 1) dL_law_1404 rfl ?_
  refine rs_wj (b := b) 1 hL h0 (by decide) (by omega) rfl rfl dL_law_1405 dL_law_1406 dL_law_1408 dL_law_1409 dL_law_1410 ?_
  refine rs_wj (b := b) 2 hL h0 (by decide) (by omega) rfl rfl dL_law_1411 dL_law_1412 dL_law_1414 dL_law_1415 dL_law_1416 ?_
  refine rs_aload_n (k := 3) dL_law_1417 rfl ?_
  refine rs_sta (M' := ML_claim) (hh := hL_claim) (d' := 9) (t' := 2) (n := 4) (As := [_, _, _, _]) (pc := 1418) dL_law_1418 gL_claim ⟨by decide, by decide, by decide +kernel⟩ (by decide) (by omega) (Nat.le_of_ble_eq_true rfl) (Nat.le_of_ble_eq_true rfl) rfl (eL_claim (Nat.le_refl _) (eX6_claim hc.1 hw hc.2.2.2.1 hc.2.1 zXs_R zXs_R (fun g0 g1 g2 g3 g4 => ⟨_, rfl, ?_⟩) (fun g0 g1 g2 g3 g4 g5 => ⟨_, rfl, ?_⟩) (fun g0 g1 g2 g3 g4 g5 W1 o1 gg c1 i1 => ⟨_, rfl, ?_⟩) (fun g => ⟨rfl, ?_⟩)))
  · have hc1 := (hc).out (z := (-11))
    have hm1 := (hm).out (z := (-11))
    have hz : zup W 128 0 ((-11)) 128 0 = (-11) := zup_s
    generalize zup W 128 0 ((-11)) = W2 at hc1 hm1 hz ⊢
    refine rs_istore (pc := 1421) dL_law_1421 (by decide) ?_
    refine rs_aload_n (k := 2) (pc := 1423) dL_law_1423 rfl ?_
    refine rs_wj (b := b) 1 hL h0 (by decide) (by omega) rfl rfl dL_law_1424 dL_law_1425 dL_law_1427 dL_law_1428 dL_law_1429 ?_
    refine rs_wj (b := b) 2 hL h0 (by decide) (by omega) rfl rfl dL_law_1430 dL_law_1431 dL_law_1433 dL_law_1434 dL_law_1435 ?_
    refine rs_inv0 (M' := MX7_claim) (k := 116) (As := [_, _]) (pc := 1436) dL_law_1436 lL_189 kX7_claim vX7_claim zk_116 (by decide) rfl (by decide) (Nat.le_of_ble_eq_true rfl) (Nat.le_of_ble_eq_true rfl) rfl (eX7_claim hm1.1 hw hm1.2.1 hg zXs_R zXs_R (fun _ g => absurd g4 g) (fun g => absurd ⟨⟨g0, g1⟩, g2, g3⟩ g) (fun _ _ W3 o3 t3 k3 e3 => ?_) (fun _ g => absurd g4 g))
    exact rs_tail (m := 1439) (k := 0) dL_law_1439 dL_law_1441 dL_law_1442 dL_law_1445 dL_law_1447 dL_law_1452 dL_law_1454 dL_law_1457 dL_law_1458 dL_law_1459 dL_law_1460 dL_law_1462 dL_law_1463 dL_law_1464 dL_law_1469 (by decide) t3 (by unfold zR; omega) (fun h9 => by rw [o3.o]; exact hz) (k _ _ (by omega) (⟨a, n, K, B, S, TL, Z, e, hc1.up o3.c, hm1.M o3 e3 k3, hp.mono (by omega) (by omega)⟩))
  · have hc1 := (hc).out (z := (-12))
    have hm1 := (hm).out (z := (-12))
    have hz : zup W 128 0 ((-12)) 128 0 = (-12) := zup_s
    generalize zup W 128 0 ((-12)) = W2 at hc1 hm1 hz ⊢
    refine rs_istore (pc := 1421) dL_law_1421 (by decide) ?_
    refine rs_aload_n (k := 2) (pc := 1423) dL_law_1423 rfl ?_
    refine rs_wj (b := b) 1 hL h0 (by decide) (by omega) rfl rfl dL_law_1424 dL_law_1425 dL_law_1427 dL_law_1428 dL_law_1429 ?_
    refine rs_wj (b := b) 2 hL h0 (by decide) (by omega) rfl rfl dL_law_1430 dL_law_1431 dL_law_1433 dL_law_1434 dL_law_1435 ?_
    refine rs_inv0 (M' := MX7_claim) (k := 116) (As := [_, _]) (pc := 1436) dL_law_1436 lL_189 kX7_claim vX7_claim zk_116 (by decide) rfl (by decide) (Nat.le_of_ble_eq_true rfl) (Nat.le_of_ble_eq_true rfl) rfl (eX7_claim hm1.1 hw hm1.2.1 hg zXs_R zXs_R (fun _ _ g => absurd g g5) (fun g => absurd ⟨⟨g0, g1⟩, g2, g3⟩ g) (fun _ g => absurd g g4) (fun _ _ _ W3 o3 t3 k3 e3 => ?_))
    exact rs_tail (m := 1439) (k := 0) dL_law_1439 dL_law_1441 dL_law_1442 dL_law_1445 dL_law_1447 dL_law_1452 dL_law_1454 dL_law_1457 dL_law_1458 dL_law_1459 dL_law_1460 dL_law_1462 dL_law_1463 dL_law_1464 dL_law_1469 (by decide) t3 (by unfold zR; omega) (fun h9 => by rw [o3.o]; exact hz) (k _ _ (by omega) (⟨a, n, K, B, S, TL, Z, e, hc1.up o3.c, hm1.M o3 e3 k3, hp.mono (by omega) (by omega)⟩))
  · have hm2 := hw.2.2.2.2.2.2.2.2.2.2.2.2.2.2.2.2.2.1 (zXs xs (i + 1)) g0 g1
    unfold zWfP at hm2
    have hsq := zWf.sq hw
    have fb := WF_S (o := 0) (v := zXs xs (i + 1) + 1) (WF_P (w := 3) (v := aP a (zXs xs (i + 1)) 3 - 1) (hw.mono (T' := T + 26) (by omega) (by omega)) g0 (by unfold zWr; omega)) g2 (by omega) (Or.inl ⟨rfl, by omega, by rw [iup_n (by omega)]; omega⟩)
    have hc1 := (hc.C o1 gg c1 i1).out (z := ((aNown (aClaim a (zXs xs (i + 1)) (zXs xs (i + 2))) (zXs xs (i + 1)) : Nat) : Int))
    have hm1 := (hm.up o1.m).out (z := ((aNown (aClaim a (zXs xs (i + 1)) (zXs xs (i + 2))) (zXs xs (i + 1)) : Nat) : Int))
    have hz : zup W1 128 0 (((aNown (aClaim a (zXs xs (i + 1)) (zXs xs (i + 2))) (zXs xs (i + 1)) : Nat) : Int)) 128 0 = ((aNown (aClaim a (zXs xs (i + 1)) (zXs xs (i + 2))) (zXs xs (i + 1)) : Nat) : Int) := zup_s
    generalize zup W1 128 0 (((aNown (aClaim a (zXs xs (i + 1)) (zXs xs (i + 2))) (zXs xs (i + 1)) : Nat) : Int)) = W2 at hc1 hm1 hz ⊢
    refine rs_istore (pc := 1421) dL_law_1421 (by decide) ?_
    refine rs_aload_n (k := 2) (pc := 1423) dL_law_1423 rfl ?_
    refine rs_wj (b := b) 1 hL h0 (by decide) (by omega) rfl rfl dL_law_1424 dL_law_1425 dL_law_1427 dL_law_1428 dL_law_1429 ?_
    refine rs_wj (b := b) 2 hL h0 (by decide) (by omega) rfl rfl dL_law_1430 dL_law_1431 dL_law_1433 dL_law_1434 dL_law_1435 ?_
    refine rs_inv0 (M' := MX7_claim) (k := 116) (As := [_, _]) (pc := 1436) dL_law_1436 lL_189 kX7_claim vX7_claim zk_116 (by decide) rfl (by decide) (Nat.le_of_ble_eq_true rfl) (Nat.le_of_ble_eq_true rfl) rfl (eX7_claim hm1.1 hw hm1.2.1 hg zXs_R zXs_R (fun _ _ _ W3 o3 t3 k3 e3 => ?_) (fun g => absurd ⟨⟨g0, g1⟩, g2, g3⟩ g) (fun _ g => absurd g g4) (fun _ _ g => absurd g5 g))
    exact rs_tail (m := 1439) (k := 0) dL_law_1439 dL_law_1441 dL_law_1442 dL_law_1445 dL_law_1447 dL_law_1452 dL_law_1454 dL_law_1457 dL_law_1458 dL_law_1459 dL_law_1460 dL_law_1462 dL_law_1463 dL_law_1464 dL_law_1469 (by decide) t3 (by unfold zR; omega) (fun h9 => by rw [o3.o]; exact hz) (k _ _ (by omega) (⟨(aClaim a (zXs xs (i + 1)) (zXs xs (i + 2))), _, _, B, S, TL, Z, e, hc1.up o3.c, hm1.M o3 e3 k3, hp.push (by omega) (by omega) hc.2.2.2.1.2.2.1 (aMend_wf fb) (zTg_mend fb)⟩))
  · have hc1 := hc
    have hm1 := hm
    refine rs_istore (pc := 1421) dL_law_1421 (by decide) ?_
    refine rs_aload_n (k := 2) (pc := 1423) dL_law_1423 rfl ?_
    refine rs_wj (b := b) 1 hL h0 (by decide) (by omega) rfl rfl dL_law_1424 dL_law_1425 dL_law_1427 dL_law_1428 dL_law_1429 ?_
    refine rs_wj (b := b) 2 hL h0 (by decide) (by omega) rfl rfl dL_law_1430 dL_law_1431 dL_law_1433 dL_law_1434 dL_law_1435 ?_
    refine rs_inv0 (M' := MX7_claim) (k := 116) (As := [_, _]) (pc := 1436) dL_law_1436 lL_189 kX7_claim vX7_claim zk_116 (by decide) rfl (by decide) (Nat.le_of_ble_eq_true rfl) (Nat.le_of_ble_eq_true rfl) rfl (eX7_claim hm1.1 hw hm1.2.1 hg zXs_R zXs_R (fun g9 => absurd g9 g) (fun _ W3 o3 t3 k3 e3 => ?_) (fun g9 => absurd g9 g) (fun g9 => absurd g9 g))
    exact rs_tail (m := 1439) (k := 1) dL_law_1439 dL_law_1441 dL_law_1442 dL_law_1445 dL_law_1447 dL_law_1452 dL_law_1454 dL_law_1457 dL_law_1458 dL_law_1459 dL_law_1460 dL_law_1462 dL_law_1463 dL_law_1464 dL_law_1469 (by decide) t3 (by unfold zR; omega) (fun h9 => absurd h9 (by decide)) (k _ _ (by omega) (⟨a, n, K, B, S, TL, Z, e, hc1.up o3.c, hm1.M o3 e3 k3, hp.mono (by omega) (by omega)⟩))
theorem lw_release {b L : Nat} {xs : Nat → Int32} {t : Nat} {W : zWd} {T i : Int} (hL : L ≤ 3072) (h0 : 0 ≤ i) (h1 : i + 6 ≤ L) (ht : 2 ≤ t) (hT : T + 8000 ≤ 100000000) (hI : zIv W T) (k : ∀ (W' : zWd) (t' : Nat), t - 2 ≤ t' → zIv W' (T + 26) → RS b L xs t' W' 1937 (zLS i) []) : RS b L xs t W 1472 (zLS i) [] := by
  obtain ⟨a, n, K, B, S, TL, Z, e, hc, hm, hp⟩ := hI
  have hw := hp.1.1
  have hg := hp.1.2
  refine rs_aload_n (k := 1) dL_law_1472 rfl ?_
  refine rs_wj (b := b) 1 hL h0 (by decide) (by omega) rfl rfl dL_law_1473 dL_law_1474 dL_law_1476 dL_law_1477 dL_law_1478 ?_
  refine rs_aload_n (k := 3) dL_law_1479 rfl ?_
  refine rs_sta (M' := ML_release) (hh := hL_release) (d' := 9) (t' := 1) (n := 3) (As := [_, _, _]) (pc := 1480) dL_law_1480 gL_release ⟨by decide, by decide, by decide +kernel⟩ (by decide) (by omega) (Nat.le_of_ble_eq_true rfl) (Nat.le_of_ble_eq_true rfl) rfl (eL_release (Nat.le_refl _) (eX6_release hc.1 hw hc.2.2.2.1 hc.2.1 zXs_R (fun g2 g3 g5 => ⟨_, rfl, ?_⟩) (fun g2 g3 g5 W1 o1 gg c1 i1 => ⟨_, rfl, ?_⟩) (fun g => ⟨rfl, ?_⟩)))
  · have hc1 := (hc).out (z := (-13))
    have hm1 := (hm).out (z := (-13))
    have hz : zup W 128 0 ((-13)) 128 0 = (-13) := zup_s
    generalize zup W 128 0 ((-13)) = W2 at hc1 hm1 hz ⊢
    refine rs_istore (pc := 1483) dL_law_1483 (by decide) ?_
    refine rs_aload_n (k := 2) (pc := 1485) dL_law_1485 rfl ?_
    refine rs_wj (b := b) 1 hL h0 (by decide) (by omega) rfl rfl dL_law_1486 dL_law_1487 dL_law_1489 dL_law_1490 dL_law_1491 ?_
    refine rs_inv0 (M' := MX7_release) (k := 116) (As := [_]) (pc := 1492) dL_law_1492 lL_192 kX7_release vX7_release zk_116 (by decide) rfl (by decide) (Nat.le_of_ble_eq_true rfl) (Nat.le_of_ble_eq_true rfl) rfl (eX7_release hm1.1 hw hm1.2.1 hg zXs_R (fun _ g => absurd g5 g) (fun g => absurd ⟨g2, g3⟩ g) (fun _ _ W3 o3 t3 k3 e3 => ?_))
    exact rs_tail (m := 1495) (k := 0) dL_law_1495 dL_law_1497 dL_law_1498 dL_law_1501 dL_law_1503 dL_law_1508 dL_law_1510 dL_law_1513 dL_law_1514 dL_law_1515 dL_law_1516 dL_law_1518 dL_law_1519 dL_law_1520 dL_law_1525 (by decide) t3 (by unfold zR; omega) (fun h9 => by rw [o3.o]; exact hz) (k _ _ (by omega) (⟨a, n, K, B, S, TL, Z, e, hc1.up o3.c, hm1.M o3 e3 k3, hp.mono (by omega) (by omega)⟩))
  · have hsq := zWf.sq hw
    have w2 := hw.2.2.2.2.1
    have fb := WF_S (o := 0) (v := -1 + 1) (hw.mono (T' := T + 26) (by omega) (by omega)) g2 (by omega) (Or.inl ⟨rfl, by omega, by omega⟩)
    have hc1 := (hc.C o1 gg c1 i1).out (z := aO a (zXs xs (i + 1)))
    have hm1 := (hm.up o1.m).out (z := aO a (zXs xs (i + 1)))
    have hz : zup W1 128 0 (aO a (zXs xs (i + 1))) 128 0 = aO a (zXs xs (i + 1)) := zup_s
    generalize zup W1 128 0 (aO a (zXs xs (i + 1))) = W2 at hc1 hm1 hz ⊢
    refine rs_istore (pc := 1483) dL_law_1483 (by decide) ?_
    refine rs_aload_n (k := 2) (pc := 1485) dL_law_1485 rfl ?_
    refine rs_wj (b := b) 1 hL h0 (by decide) (by omega) rfl rfl dL_law_1486 dL_law_1487 dL_law_1489 dL_law_1490 dL_law_1491 ?_
    refine rs_inv0 (M' := MX7_release) (k := 116) (As := [_]) (pc := 1492) dL_law_1492 lL_192 kX7_release vX7_release zk_116 (by decide) rfl (by decide) (Nat.le_of_ble_eq_true rfl) (Nat.le_of_ble_eq_true rfl) rfl (eX7_release hm1.1 hw hm1.2.1 hg zXs_R (fun _ _ W3 o3 t3 k3 e3 => ?_) (fun g => absurd ⟨g2, g3⟩ g) (fun _ g => absurd g g5))
    exact rs_tail (m := 1495) (k := 0) dL_law_1495 dL_law_1497 dL_law_1498 dL_law_1501 dL_law_1503 dL_law_1508 dL_law_1510 dL_law_1513 dL_law_1514 dL_law_1515 dL_law_1516 dL_law_1518 dL_law_1519 dL_law_1520 dL_law_1525 (by decide) t3 (by unfold zR; omega) (fun h9 => by rw [o3.o]; exact hz) (k _ _ (by omega) (⟨(aRelease a (zXs xs (i + 1))), _, _, B, S, TL, Z, e, hc1.up o3.c, hm1.M o3 e3 k3, hp.push (by omega) (by omega) hc.2.2.2.1.2.2.1 (aMend_wf fb) (zTg_mend fb)⟩))
  · have hc1 := hc
    have hm1 := hm
    refine rs_istore (pc := 1483) dL_law_1483 (by decide) ?_
    refine rs_aload_n (k := 2) (pc := 1485) dL_law_1485 rfl ?_
    refine rs_wj (b := b) 1 hL h0 (by decide) (by omega) rfl rfl dL_law_1486 dL_law_1487 dL_law_1489 dL_law_1490 dL_law_1491 ?_
    refine rs_inv0 (M' := MX7_release) (k := 116) (As := [_]) (pc := 1492) dL_law_1492 lL_192 kX7_release vX7_release zk_116 (by decide) rfl (by decide) (Nat.le_of_ble_eq_true rfl) (Nat.le_of_ble_eq_true rfl) rfl (eX7_release hm1.1 hw hm1.2.1 hg zXs_R (fun g9 => absurd g9 g) (fun _ W3 o3 t3 k3 e3 => ?_) (fun g9 => absurd g9 g))
    exact rs_tail (m := 1495) (k := 1) dL_law_1495 dL_law_1497 dL_law_1498 dL_law_1501 dL_law_1503 dL_law_1508 dL_law_1510 dL_law_1513 dL_law_1514 dL_law_1515 dL_law_1516 dL_law_1518 dL_law_1519 dL_law_1520 dL_law_1525 (by decide) t3 (by unfold zR; omega) (fun h9 => absurd h9 (by decide)) (k _ _ (by omega) (⟨a, n, K, B, S, TL, Z, e, hc1.up o3.c, hm1.M o3 e3 k3, hp.mono (by omega) (by omega)⟩))
theorem lw_setDrift {b L : Nat} {xs : Nat → Int32} {t : Nat} {W : zWd} {T i : Int} (hL : L ≤ 3072) (h0 : 0 ≤ i) (h1 : i + 6 ≤ L) (ht : 2 ≤ t) (hT : T + 8000 ≤ 100000000) (hI : zIv W T) (k : ∀ (W' : zWd) (t' : Nat), t - 2 ≤ t' → zIv W' (T + 26) → RS b L xs t' W' 1937 (zLS i) []) : RS b L xs t W 1528 (zLS i) [] := by
  obtain ⟨a, n, K, B, S, TL, Z, e, hc, hm, hp⟩ := hI
  have hw := hp.1.1
  have hg := hp.1.2
  refine rs_aload_n (k := 1) dL_law_1528 rfl ?_
  refine rs_wj (b := b) 1 hL h0 (by decide) (by omega) rfl rfl dL_law_1529 dL_law_1530 dL_law_1532 dL_law_1533 dL_law_1534 ?_
  refine rs_aload_n (k := 3) dL_law_1535 rfl ?_
  refine rs_sta (M' := ML_setDrift) (hh := hL_setDrift) (d' := 9) (t' := 1) (n := 3) (As := [_, _, _]) (pc := 1536) dL_law_1536 gL_setDrift ⟨by decide, by decide, by decide +kernel⟩ (by decide) (by omega) (Nat.le_of_ble_eq_true rfl) (Nat.le_of_ble_eq_true rfl) rfl (eL_setDrift (Nat.le_refl _) (eX6_setDrift hc.1 hw hc.2.2.2.1 hc.2.1 zXs_R (fun g0 g1 W1 o1 gg c1 i1 => ⟨_, rfl, ?_⟩) (fun g => ⟨rfl, ?_⟩)))
  · have fb := WF_0 (j := 3) (v := zXs xs (i + 1)) (hw.mono (T' := T + 26) (by omega) (by omega)) (Or.inl ⟨rfl, g0, g1⟩)
    have hc1 := (hc.C o1 gg c1 i1).out (z := (a 3 + 9))
    have hm1 := (hm.up o1.m).out (z := (a 3 + 9))
    have hz : zup W1 128 0 ((a 3 + 9)) 128 0 = (a 3 + 9) := zup_s
    generalize zup W1 128 0 ((a 3 + 9)) = W2 at hc1 hm1 hz ⊢
    refine rs_istore (pc := 1539) dL_law_1539 (by decide) ?_
    refine rs_aload_n (k := 2) (pc := 1541) dL_law_1541 rfl ?_
    refine rs_wj (b := b) 1 hL h0 (by decide) (by omega) rfl rfl dL_law_1542 dL_law_1543 dL_law_1545 dL_law_1546 dL_law_1547 ?_
    refine rs_inv0 (M' := MX7_setDrift) (k := 116) (As := [_]) (pc := 1548) dL_law_1548 lL_195 kX7_setDrift vX7_setDrift zk_116 (by decide) rfl (by decide) (Nat.le_of_ble_eq_true rfl) (Nat.le_of_ble_eq_true rfl) rfl (eX7_setDrift hm1.1 hw hm1.2.1 zXs_R (fun _ W3 o3 t3 k3 e3 => ?_) (fun g => absurd ⟨g0, g1⟩ g))
    exact rs_tail (m := 1551) (k := 0) dL_law_1551 dL_law_1553 dL_law_1554 dL_law_1557 dL_law_1559 dL_law_1564 dL_law_1566 dL_law_1569 dL_law_1570 dL_law_1571 dL_law_1572 dL_law_1574 dL_law_1575 dL_law_1576 dL_law_1581 (by decide) t3 (by unfold zR; omega) (fun h9 => by rw [o3.o]; exact hz) (k _ _ (by omega) (⟨(iup a 3 (zXs xs (i + 1))), _, _, B, S, TL, Z, e, hc1.up o3.c, hm1.M o3 e3 k3, hp.push (by omega) (by omega) hc.2.2.2.1.2.2.1 (fb) (zTg_up hw hg (Or.inl rfl))⟩))
  · have hc1 := hc
    have hm1 := hm
    refine rs_istore (pc := 1539) dL_law_1539 (by decide) ?_
    refine rs_aload_n (k := 2) (pc := 1541) dL_law_1541 rfl ?_
    refine rs_wj (b := b) 1 hL h0 (by decide) (by omega) rfl rfl dL_law_1542 dL_law_1543 dL_law_1545 dL_law_1546 dL_law_1547 ?_
    refine rs_inv0 (M' := MX7_setDrift) (k := 116) (As := [_]) (pc := 1548) dL_law_1548 lL_195 kX7_setDrift vX7_setDrift zk_116 (by decide) rfl (by decide) (Nat.le_of_ble_eq_true rfl) (Nat.le_of_ble_eq_true rfl) rfl (eX7_setDrift hm1.1 hw hm1.2.1 zXs_R (fun g9 => absurd g9 g) (fun _ W3 o3 t3 k3 e3 => ?_))
    exact rs_tail (m := 1551) (k := 1) dL_law_1551 dL_law_1553 dL_law_1554 dL_law_1557 dL_law_1559 dL_law_1564 dL_law_1566 dL_law_1569 dL_law_1570 dL_law_1571 dL_law_1572 dL_law_1574 dL_law_1575 dL_law_1576 dL_law_1581 (by decide) t3 (by unfold zR; omega) (fun h9 => absurd h9 (by decide)) (k _ _ (by omega) (⟨a, n, K, B, S, TL, Z, e, hc1.up o3.c, hm1.M o3 e3 k3, hp.mono (by omega) (by omega)⟩))
theorem lw_setPlayer {b L : Nat} {xs : Nat → Int32} {t : Nat} {W : zWd} {T i : Int} (hL : L ≤ 3072) (h0 : 0 ≤ i) (h1 : i + 6 ≤ L) (ht : 2 ≤ t) (hT : T + 8000 ≤ 100000000) (hI : zIv W T) (k : ∀ (W' : zWd) (t' : Nat), t - 2 ≤ t' → zIv W' (T + 26) → RS b L xs t' W' 1937 (zLS i) []) : RS b L xs t W 1584 (zLS i) [] := by
  obtain ⟨a, n, K, B, S, TL, Z, e, hc, hm, hp⟩ := hI
  have hw := hp.1.1
  have hg := hp.1.2
  refine rs_aload_n (k := 1) dL_law_1584 rfl ?_
  refine rs_wj (b := b) 1 hL h0 (by decide) (by omega) rfl rfl dL_law_1585 dL_law_1586 dL_law_1588 dL_law_1589 dL_law_1590 ?_
  refine rs_wj (b := b) 2 hL h0 (by decide) (by omega) rfl rfl dL_law_1591 dL_law_1592 dL_law_1594 dL_law_1595 dL_law_1596 ?_
  refine rs_wj (b := b) 3 hL h0 (by decide) (by omega) rfl rfl dL_law_1597 dL_law_1598 dL_law_1600 dL_law_1601 dL_law_1602 ?_
  refine rs_aload_n (k := 3) dL_law_1603 rfl ?_
  refine rs_sta (M' := ML_setPlayer) (hh := hL_setPlayer) (d' := 9) (t' := 2) (n := 5) (As := [_, _, _, _, _]) (pc := 1604) dL_law_1604 gL_setPlayer ⟨by decide, by decide, by decide +kernel⟩ (by decide) (by omega) (Nat.le_of_ble_eq_true rfl) (Nat.le_of_ble_eq_true rfl) rfl (eL_setPlayer (Nat.le_refl _) (eX6_setPlayer hc.1 hw hc.2.2.2.1 hc.2.1 zXs_R zXs_R zXs_R (fun g0 g1 g2 W1 o1 gg c1 i1 => ⟨_, rfl, ?_⟩) (fun g => Or.inl ⟨rfl, ?_⟩) (fun g0 g1 g => Or.inr ⟨rfl, ?_⟩)))
  · have fb := WF_P (hw.mono (T' := T + 26) (by omega) (by omega)) g0 (zMayB_wr g2)
    have hc1 := (hc.C o1 gg c1 i1).out (z := aP a (zXs xs (i + 1)) (zXs xs (i + 2)))
    have hm1 := (hm.up o1.m).out (z := aP a (zXs xs (i + 1)) (zXs xs (i + 2)))
    have hz : zup W1 128 0 (aP a (zXs xs (i + 1)) (zXs xs (i + 2))) 128 0 = aP a (zXs xs (i + 1)) (zXs xs (i + 2)) := zup_s
    generalize zup W1 128 0 (aP a (zXs xs (i + 1)) (zXs xs (i + 2))) = W2 at hc1 hm1 hz ⊢
    refine rs_istore (pc := 1607) dL_law_1607 (by decide) ?_
    refine rs_aload_n (k := 2) (pc := 1609) dL_law_1609 rfl ?_
    refine rs_wj (b := b) 1 hL h0 (by decide) (by omega) rfl rfl dL_law_1610 dL_law_1611 dL_law_1613 dL_law_1614 dL_law_1615 ?_
    refine rs_wj (b := b) 2 hL h0 (by decide) (by omega) rfl rfl dL_law_1616 dL_law_1617 dL_law_1619 dL_law_1620 dL_law_1621 ?_
    refine rs_wj (b := b) 3 hL h0 (by decide) (by omega) rfl rfl dL_law_1622 dL_law_1623 dL_law_1625 dL_law_1626 dL_law_1627 ?_
    refine rs_inv0 (M' := MX7_setPlayer) (k := 116) (As := [_, _, _]) (pc := 1628) dL_law_1628 lL_198 kX7_setPlayer vX7_setPlayer zk_116 (by decide) rfl (by decide) (Nat.le_of_ble_eq_true rfl) (Nat.le_of_ble_eq_true rfl) rfl (eX7_setPlayer hm1.1 hw hm1.2.1 hg zXs_R zXs_R zXs_R (fun _ _ W3 o3 t3 k3 e3 => ?_) (fun g => absurd ⟨g0, g1⟩ g) (fun _ g => absurd g2 g))
    exact rs_tail (m := 1631) (k := 0) dL_law_1631 dL_law_1633 dL_law_1634 dL_law_1637 dL_law_1639 dL_law_1644 dL_law_1646 dL_law_1649 dL_law_1650 dL_law_1651 dL_law_1652 dL_law_1654 dL_law_1655 dL_law_1656 dL_law_1661 (by decide) t3 (by unfold zR; omega) (fun h9 => by rw [o3.o]; exact hz) (k _ _ (by omega) (⟨(aSetP a (zXs xs (i + 1)) (zXs xs (i + 2)) (zXs xs (i + 3))), _, _, B, S, TL, Z, e, hc1.up o3.c, hm1.M o3 e3 k3, hp.push (by omega) (by omega) hc.2.2.2.1.2.2.1 (aMend_wf fb) (zTg_mend fb)⟩))
  · have hc1 := hc
    have hm1 := hm
    refine rs_istore (pc := 1607) dL_law_1607 (by decide) ?_
    refine rs_aload_n (k := 2) (pc := 1609) dL_law_1609 rfl ?_
    refine rs_wj (b := b) 1 hL h0 (by decide) (by omega) rfl rfl dL_law_1610 dL_law_1611 dL_law_1613 dL_law_1614 dL_law_1615 ?_
    refine rs_wj (b := b) 2 hL h0 (by decide) (by omega) rfl rfl dL_law_1616 dL_law_1617 dL_law_1619 dL_law_1620 dL_law_1621 ?_
    refine rs_wj (b := b) 3 hL h0 (by decide) (by omega) rfl rfl dL_law_1622 dL_law_1623 dL_law_1625 dL_law_1626 dL_law_1627 ?_
    refine rs_inv0 (M' := MX7_setPlayer) (k := 116) (As := [_, _, _]) (pc := 1628) dL_law_1628 lL_198 kX7_setPlayer vX7_setPlayer zk_116 (by decide) rfl (by decide) (Nat.le_of_ble_eq_true rfl) (Nat.le_of_ble_eq_true rfl) rfl (eX7_setPlayer hm1.1 hw hm1.2.1 hg zXs_R zXs_R zXs_R (fun g9 => absurd g9 g) (fun _ W3 o3 t3 k3 e3 => ?_) (fun g9 => absurd g9 g))
    exact rs_tail (m := 1631) (k := 1) dL_law_1631 dL_law_1633 dL_law_1634 dL_law_1637 dL_law_1639 dL_law_1644 dL_law_1646 dL_law_1649 dL_law_1650 dL_law_1651 dL_law_1652 dL_law_1654 dL_law_1655 dL_law_1656 dL_law_1661 (by decide) t3 (by unfold zR; omega) (fun h9 => absurd h9 (by decide)) (k _ _ (by omega) (⟨a, n, K, B, S, TL, Z, e, hc1.up o3.c, hm1.M o3 e3 k3, hp.mono (by omega) (by omega)⟩))
  · have hc1 := hc
    have hm1 := hm
    refine rs_istore (pc := 1607) dL_law_1607 (by decide) ?_
    refine rs_aload_n (k := 2) (pc := 1609) dL_law_1609 rfl ?_
    refine rs_wj (b := b) 1 hL h0 (by decide) (by omega) rfl rfl dL_law_1610 dL_law_1611 dL_law_1613 dL_law_1614 dL_law_1615 ?_
    refine rs_wj (b := b) 2 hL h0 (by decide) (by omega) rfl rfl dL_law_1616 dL_law_1617 dL_law_1619 dL_law_1620 dL_law_1621 ?_
    refine rs_wj (b := b) 3 hL h0 (by decide) (by omega) rfl rfl dL_law_1622 dL_law_1623 dL_law_1625 dL_law_1626 dL_law_1627 ?_
    refine rs_inv0 (M' := MX7_setPlayer) (k := 116) (As := [_, _, _]) (pc := 1628) dL_law_1628 lL_198 kX7_setPlayer vX7_setPlayer zk_116 (by decide) rfl (by decide) (Nat.le_of_ble_eq_true rfl) (Nat.le_of_ble_eq_true rfl) rfl (eX7_setPlayer hm1.1 hw hm1.2.1 hg zXs_R zXs_R zXs_R (fun _ g9 => absurd g9 g) (fun g9 => absurd ⟨g0, g1⟩ g9) (fun _ _ W3 o3 t3 k3 e3 => ?_))
    exact rs_tail (m := 1631) (k := 2) dL_law_1631 dL_law_1633 dL_law_1634 dL_law_1637 dL_law_1639 dL_law_1644 dL_law_1646 dL_law_1649 dL_law_1650 dL_law_1651 dL_law_1652 dL_law_1654 dL_law_1655 dL_law_1656 dL_law_1661 (by decide) t3 (by unfold zR; omega) (fun h9 => absurd h9 (by decide)) (k _ _ (by omega) (⟨a, n, K, B, S, TL, Z, e, hc1.up o3.c, hm1.M o3 e3 k3, hp.mono (by omega) (by omega)⟩))
theorem lw_mark {b L : Nat} {xs : Nat → Int32} {t : Nat} {W : zWd} {T i : Int} (hL : L ≤ 3072) (h0 : 0 ≤ i) (h1 : i + 6 ≤ L) (ht : 2 ≤ t) (hT : T + 8000 ≤ 100000000) (hI : zIv W T) (k : ∀ (W' : zWd) (t' : Nat), t - 2 ≤ t' → zIv W' (T + 26) → RS b L xs t' W' 1937 (zLS i) []) : RS b L xs t W 1664 (zLS i) [] := by
  obtain ⟨a, n, K, B, S, TL, Z, e, hc, hm, hp⟩ := hI
  have hw := hp.1.1
  have hg := hp.1.2
  refine rs_aload_n (k := 1) dL_law_1664 rfl ?_
  refine rs_wj (b := b) 1 hL h0 (by decide) (by omega) rfl rfl dL_law_1665 dL_law_1666 dL_law_1668 dL_law_1669 dL_law_1670 ?_
  refine rs_wj (b := b) 2 hL h0 (by decide) (by omega) rfl rfl dL_law_1671 dL_law_1672 dL_law_1674 dL_law_1675 dL_law_1676 ?_
  refine rs_aload_n (k := 3) dL_law_1677 rfl ?_
  refine rs_sta (M' := ML_mark) (hh := hL_mark) (d' := 9) (t' := 2) (n := 4) (As := [_, _, _, _]) (pc := 1678) dL_law_1678 gL_mark ⟨by decide, by decide, by decide +kernel⟩ (by decide) (by omega) (Nat.le_of_ble_eq_true rfl) (Nat.le_of_ble_eq_true rfl) rfl (eL_mark (Nat.le_refl _) (eX6_mark hc.1 hw hc.2.2.2.1 hc.2.1 zXs_R zXs_R (fun g0 g1 g2 W1 o1 gg c1 i1 => ⟨_, rfl, ?_⟩) (fun g => ⟨rfl, ?_⟩)))
  · have hsq := zWf.sq hw
    have fb := WF_P (w := 5) (v := if zXs xs (i + 2) = -1 then 0 else zXs xs (i + 2)) (hw.mono (T' := T + 26) (by omega) (by omega)) g0 (by unfold zWr; split <;> omega)
    have hc1 := (hc.C o1 gg c1 i1).out (z := (if aP a (zXs xs (i + 1)) 5 = 0 then -1 else aP a (zXs xs (i + 1)) 5))
    have hm1 := (hm.up o1.m).out (z := (if aP a (zXs xs (i + 1)) 5 = 0 then -1 else aP a (zXs xs (i + 1)) 5))
    have hz : zup W1 128 0 ((if aP a (zXs xs (i + 1)) 5 = 0 then -1 else aP a (zXs xs (i + 1)) 5)) 128 0 = (if aP a (zXs xs (i + 1)) 5 = 0 then -1 else aP a (zXs xs (i + 1)) 5) := zup_s
    generalize zup W1 128 0 ((if aP a (zXs xs (i + 1)) 5 = 0 then -1 else aP a (zXs xs (i + 1)) 5)) = W2 at hc1 hm1 hz ⊢
    refine rs_istore (pc := 1681) dL_law_1681 (by decide) ?_
    refine rs_aload_n (k := 2) (pc := 1683) dL_law_1683 rfl ?_
    refine rs_wj (b := b) 1 hL h0 (by decide) (by omega) rfl rfl dL_law_1684 dL_law_1685 dL_law_1687 dL_law_1688 dL_law_1689 ?_
    refine rs_wj (b := b) 2 hL h0 (by decide) (by omega) rfl rfl dL_law_1690 dL_law_1691 dL_law_1693 dL_law_1694 dL_law_1695 ?_
    refine rs_inv0 (M' := MX7_mark) (k := 116) (As := [_, _]) (pc := 1696) dL_law_1696 lL_201 kX7_mark vX7_mark zk_116 (by decide) rfl (by decide) (Nat.le_of_ble_eq_true rfl) (Nat.le_of_ble_eq_true rfl) rfl (eX7_mark hm1.1 hw hm1.2.1 zXs_R zXs_R (fun _ W3 o3 t3 k3 e3 => ?_) (fun g => absurd ⟨⟨g0, g1⟩, g2⟩ g))
    exact rs_tail (m := 1699) (k := 0) dL_law_1699 dL_law_1701 dL_law_1702 dL_law_1705 dL_law_1707 dL_law_1712 dL_law_1714 dL_law_1717 dL_law_1718 dL_law_1719 dL_law_1720 dL_law_1722 dL_law_1723 dL_law_1724 dL_law_1729 (by decide) t3 (by unfold zR; omega) (fun h9 => by rw [o3.o]; exact hz) (k _ _ (by omega) (⟨(iup a (58 + 17 * zXs xs (i + 1) + 5) (if zXs xs (i + 2) = -1 then 0 else zXs xs (i + 2))), _, _, B, S, TL, Z, e, hc1.up o3.c, hm1.M o3 e3 k3, hp.push (by omega) (by omega) hc.2.2.2.1.2.2.1 (fb) (zTg_up hw hg (Or.inr (Or.inr (Or.inr (Or.inr (Or.inr ⟨zXs xs (i + 1), 5, g0, by omega, by omega, by omega, rfl⟩))))))⟩))
  · have hc1 := hc
    have hm1 := hm
    refine rs_istore (pc := 1681) dL_law_1681 (by decide) ?_
    refine rs_aload_n (k := 2) (pc := 1683) dL_law_1683 rfl ?_
    refine rs_wj (b := b) 1 hL h0 (by decide) (by omega) rfl rfl dL_law_1684 dL_law_1685 dL_law_1687 dL_law_1688 dL_law_1689 ?_
    refine rs_wj (b := b) 2 hL h0 (by decide) (by omega) rfl rfl dL_law_1690 dL_law_1691 dL_law_1693 dL_law_1694 dL_law_1695 ?_
    refine rs_inv0 (M' := MX7_mark) (k := 116) (As := [_, _]) (pc := 1696) dL_law_1696 lL_201 kX7_mark vX7_mark zk_116 (by decide) rfl (by decide) (Nat.le_of_ble_eq_true rfl) (Nat.le_of_ble_eq_true rfl) rfl (eX7_mark hm1.1 hw hm1.2.1 zXs_R zXs_R (fun g9 => absurd g9 g) (fun _ W3 o3 t3 k3 e3 => ?_))
    exact rs_tail (m := 1699) (k := 1) dL_law_1699 dL_law_1701 dL_law_1702 dL_law_1705 dL_law_1707 dL_law_1712 dL_law_1714 dL_law_1717 dL_law_1718 dL_law_1719 dL_law_1720 dL_law_1722 dL_law_1723 dL_law_1724 dL_law_1729 (by decide) t3 (by unfold zR; omega) (fun h9 => absurd h9 (by decide)) (k _ _ (by omega) (⟨a, n, K, B, S, TL, Z, e, hc1.up o3.c, hm1.M o3 e3 k3, hp.mono (by omega) (by omega)⟩))
theorem lw_undo {b L : Nat} {xs : Nat → Int32} {t : Nat} {W : zWd} {T i : Int} (hL : L ≤ 3072) (h0 : 0 ≤ i) (h1 : i + 6 ≤ L) (ht : 2 ≤ t) (hT : T + 8000 ≤ 100000000) (hI : zIv W T) (k : ∀ (W' : zWd) (t' : Nat), t - 2 ≤ t' → zIv W' (T + 26) → RS b L xs t' W' 1937 (zLS i) []) : RS b L xs t W 1732 (zLS i) [] := by
  obtain ⟨a, n, K, B, S, TL, Z, e, hc, hm, hp⟩ := hI
  have hw := hp.1.1
  have hg := hp.1.2
  refine rs_aload_n (k := 1) dL_law_1732 rfl ?_
  refine rs_aload_n (k := 3) dL_law_1733 rfl ?_
  refine rs_sta (M' := ML_undo) (hh := hL_undo) (d' := 9) (t' := 1) (n := 2) (As := [_, _]) (pc := 1734) dL_law_1734 gL_undo ⟨by decide, by decide, by decide +kernel⟩ (by decide) (by omega) (Nat.le_of_ble_eq_true rfl) (Nat.le_of_ble_eq_true rfl) rfl (eL_undo (Nat.le_refl _) (eX6_undo hc.1 hw hc.2.2.2.1 hc.2.1 (fun g => (hp.2.1 0 g).1.2.2.2.2.2.1) (fun g0 W1 o1 gg c1 i1 => ⟨_, rfl, ?_⟩) (fun g => ⟨rfl, ?_⟩)))
  · have hc1 := (hc.C o1 gg c1 i1).out (z := (n - 1))
    have hm1 := (hm.up o1.m).out (z := (n - 1))
    have hz : zup W1 128 0 ((n - 1)) 128 0 = (n - 1) := zup_s
    generalize zup W1 128 0 ((n - 1)) = W2 at hc1 hm1 hz ⊢
    refine rs_istore (pc := 1737) dL_law_1737 (by decide) ?_
    refine rs_aload_n (k := 2) (pc := 1739) dL_law_1739 rfl ?_
    refine rs_inv0 (M' := MX7_undo) (k := 116) (As := []) (pc := 1740) dL_law_1740 lL_205 kX7_undo vX7_undo zk_116 (by decide) rfl (by decide) (Nat.le_of_ble_eq_true rfl) (Nat.le_of_ble_eq_true rfl) rfl (eX7_undo hm1.2.1 (fun g => absurd g (by omega)) (fun _ W3 o3 t3 k3 e3 => ?_))
    exact rs_tail (m := 1743) (k := 0) dL_law_1743 dL_law_1745 dL_law_1746 dL_law_1749 dL_law_1751 dL_law_1756 dL_law_1758 dL_law_1761 dL_law_1762 dL_law_1763 dL_law_1764 dL_law_1766 dL_law_1767 dL_law_1768 dL_law_1773 (by decide) t3 (by unfold zR; omega) (fun h9 => by rw [o3.o]; exact hz) (k _ _ (by omega) (zIv.ea (hc1.up o3.c) (hm1.u o3 rfl k3) (fun i9 g8 g9 => e3 i9 g8 g9) (zIp.mono (show zIp T (K 0) (n - 1) (fun j => K (j + 1)) B S Z e from ⟨hp.2.1 0 g0, fun j hj => hp.2.1 (j + 1) (by omega), hp.2.2⟩) (by omega) (by omega))))
  · have hc1 := hc
    have hm1 := hm
    refine rs_istore (pc := 1737) dL_law_1737 (by decide) ?_
    refine rs_aload_n (k := 2) (pc := 1739) dL_law_1739 rfl ?_
    refine rs_inv0 (M' := MX7_undo) (k := 116) (As := []) (pc := 1740) dL_law_1740 lL_205 kX7_undo vX7_undo zk_116 (by decide) rfl (by decide) (Nat.le_of_ble_eq_true rfl) (Nat.le_of_ble_eq_true rfl) rfl (eX7_undo hm1.2.1 (fun _ W3 o3 t3 k3 e3 => ?_) (fun g9 => absurd g (by omega)))
    exact rs_tail (m := 1743) (k := 1) dL_law_1743 dL_law_1745 dL_law_1746 dL_law_1749 dL_law_1751 dL_law_1756 dL_law_1758 dL_law_1761 dL_law_1762 dL_law_1763 dL_law_1764 dL_law_1766 dL_law_1767 dL_law_1768 dL_law_1773 (by decide) t3 (by unfold zR; omega) (fun h9 => absurd h9 (by decide)) (k _ _ (by omega) (⟨a, n, K, B, S, TL, Z, e, hc1.up o3.c, hm1.u o3 (e3.trans hm1.1) (by unfold zKp; rw [k3, o3.1 120 (by omega) (by omega)]; exact ⟨rfl, hm1.2.1.2⟩), hp.mono (by omega) (by omega)⟩))
theorem lw_restore {b L : Nat} {xs : Nat → Int32} {t : Nat} {W : zWd} {T i : Int} (hL : L ≤ 3072) (h0 : 0 ≤ i) (h1 : i + 6 ≤ L) (ht : 2 ≤ t) (hT : T + 8000 ≤ 100000000) (hI : zIv W T) (k : ∀ (W' : zWd) (t' : Nat), t - 2 ≤ t' → zIv W' (T + 26) → RS b L xs t' W' 1937 (zLS i) []) : RS b L xs t W 1812 (zLS i) [] := by
  obtain ⟨a, n, K, B, S, TL, Z, e, hc, hm, hp⟩ := hI
  have hw := hp.1.1
  have hg := hp.1.2
  refine rs_aload_n (k := 1) dL_law_1812 rfl ?_
  refine rs_wj (b := b) 1 hL h0 (by decide) (by omega) rfl rfl dL_law_1813 dL_law_1814 dL_law_1816 dL_law_1817 dL_law_1818 ?_
  refine rs_aload_n (k := 3) dL_law_1819 rfl ?_
  refine rs_sta (M' := ML_restore) (hh := hL_restore) (d' := 9) (t' := 2) (n := 3) (As := [_, _, _]) (pc := 1820) dL_law_1820 gL_restore ⟨by decide, by decide, by decide +kernel⟩ (by decide) (by omega) (Nat.le_of_ble_eq_true rfl) (Nat.le_of_ble_eq_true rfl) rfl (eL_restore (Nat.le_refl _) (eX6_restore hc.1 hw hc.2.2.2.1 hc.2.1 hc.2.2.2.2.1 (fun g0 g1 gB => (hp.2.2.1 _ g0 g1 gB).1.2.2.2.2.2.1) zXs_R (fun g0 g1 gB W1 o1 gg c1 i1 => ⟨_, rfl, ?_⟩) (fun g => Or.inl ⟨rfl, ?_⟩) (fun g0 g1 gB => Or.inr ⟨rfl, ?_⟩)))
  · have hc1 := (hc.C o1 gg c1 i1).out (z := (S (zXs xs (i + 1)) 4))
    have hm1 := (hm.up o1.m).out (z := (S (zXs xs (i + 1)) 4))
    have hz : zup W1 128 0 ((S (zXs xs (i + 1)) 4)) 128 0 = (S (zXs xs (i + 1)) 4) := zup_s
    generalize zup W1 128 0 ((S (zXs xs (i + 1)) 4)) = W2 at hc1 hm1 hz ⊢
    refine rs_istore (pc := 1823) dL_law_1823 (by decide) ?_
    refine rs_aload_n (k := 2) (pc := 1825) dL_law_1825 rfl ?_
    refine rs_wj (b := b) 1 hL h0 (by decide) (by omega) rfl rfl dL_law_1826 dL_law_1827 dL_law_1829 dL_law_1830 dL_law_1831 ?_
    refine rs_inv0 (M' := MX7_restore) (k := 116) (As := [_]) (pc := 1832) dL_law_1832 lL_212 kX7_restore vX7_restore zk_116 (by decide) rfl (by decide) (Nat.le_of_ble_eq_true rfl) (Nat.le_of_ble_eq_true rfl) rfl (eX7_restore hm1.1 hw hm1.2.1 hm1.2.2.1 zXs_R (fun _ _ W3 o3 t3 k3 e3 => ?_) (fun g => absurd ⟨g0, by omega⟩ g) (fun _ g => absurd gB g))
    exact rs_tail (m := 1835) (k := 0) dL_law_1835 dL_law_1837 dL_law_1838 dL_law_1841 dL_law_1843 dL_law_1848 dL_law_1850 dL_law_1853 dL_law_1854 dL_law_1855 dL_law_1856 dL_law_1858 dL_law_1859 dL_law_1860 dL_law_1865 (by decide) t3 (by unfold zR; omega) (fun h9 => by rw [o3.o]; exact hz) (k _ _ (by omega) (zIv.ea (hc1.up o3.c) (hm1.M o3 rfl k3) (fun i9 g8 g9 => e3 i9 g8 g9) (hp.push (T' := T + 26) (by omega) (by omega) hc.2.2.2.1.2.2.1 ((hp.2.2.1 _ g0 g1 gB).1.mono (by omega) (by omega)) (hp.2.2.1 _ g0 g1 gB).2)))
  · have hc1 := hc
    have hm1 := hm
    refine rs_istore (pc := 1823) dL_law_1823 (by decide) ?_
    refine rs_aload_n (k := 2) (pc := 1825) dL_law_1825 rfl ?_
    refine rs_wj (b := b) 1 hL h0 (by decide) (by omega) rfl rfl dL_law_1826 dL_law_1827 dL_law_1829 dL_law_1830 dL_law_1831 ?_
    refine rs_inv0 (M' := MX7_restore) (k := 116) (As := [_]) (pc := 1832) dL_law_1832 lL_212 kX7_restore vX7_restore zk_116 (by decide) rfl (by decide) (Nat.le_of_ble_eq_true rfl) (Nat.le_of_ble_eq_true rfl) rfl (eX7_restore hm1.1 hw hm1.2.1 hm1.2.2.1 zXs_R (fun g9 => absurd ⟨g9.1, by omega⟩ g) (fun _ W3 o3 t3 k3 e3 => ?_) (fun g9 => absurd ⟨g9.1, by omega⟩ g))
    exact rs_tail (m := 1835) (k := 1) dL_law_1835 dL_law_1837 dL_law_1838 dL_law_1841 dL_law_1843 dL_law_1848 dL_law_1850 dL_law_1853 dL_law_1854 dL_law_1855 dL_law_1856 dL_law_1858 dL_law_1859 dL_law_1860 dL_law_1865 (by decide) t3 (by unfold zR; omega) (fun h9 => absurd h9 (by decide)) (k _ _ (by omega) (⟨a, n, K, B, S, TL, Z, e, hc1.up o3.c, hm1.M o3 e3 k3, hp.mono (by omega) (by omega)⟩))
  · have hc1 := hc
    have hm1 := hm
    refine rs_istore (pc := 1823) dL_law_1823 (by decide) ?_
    refine rs_aload_n (k := 2) (pc := 1825) dL_law_1825 rfl ?_
    refine rs_wj (b := b) 1 hL h0 (by decide) (by omega) rfl rfl dL_law_1826 dL_law_1827 dL_law_1829 dL_law_1830 dL_law_1831 ?_
    refine rs_inv0 (M' := MX7_restore) (k := 116) (As := [_]) (pc := 1832) dL_law_1832 lL_212 kX7_restore vX7_restore zk_116 (by decide) rfl (by decide) (Nat.le_of_ble_eq_true rfl) (Nat.le_of_ble_eq_true rfl) rfl (eX7_restore hm1.1 hw hm1.2.1 hm1.2.2.1 zXs_R (fun _ g9 => absurd g9 gB) (fun g9 => absurd ⟨g0, by omega⟩ g9) (fun _ _ W3 o3 t3 k3 e3 => ?_))
    exact rs_tail (m := 1835) (k := 2) dL_law_1835 dL_law_1837 dL_law_1838 dL_law_1841 dL_law_1843 dL_law_1848 dL_law_1850 dL_law_1853 dL_law_1854 dL_law_1855 dL_law_1856 dL_law_1858 dL_law_1859 dL_law_1860 dL_law_1865 (by decide) t3 (by unfold zR; omega) (fun h9 => absurd h9 (by decide)) (k _ _ (by omega) (⟨a, n, K, B, S, TL, Z, e, hc1.up o3.c, hm1.M o3 e3 k3, hp.mono (by omega) (by omega)⟩))
theorem lw_append {b L : Nat} {xs : Nat → Int32} {t : Nat} {W : zWd} {T i : Int} (hL : L ≤ 3072) (h0 : 0 ≤ i) (h1 : i + 6 ≤ L) (ht : 2 ≤ t) (hT : T + 8000 ≤ 100000000) (hI : zIv W T) (k : ∀ (W' : zWd) (t' : Nat), t - 2 ≤ t' → zIv W' (T + 26) → RS b L xs t' W' 1937 (zLS i) []) : RS b L xs t W 184 (zLS i) [] := by
  obtain ⟨a, n, K, B, S, TL, Z, e, hc, hm, hp⟩ := hI
  have hw := hp.1.1
  have hg := hp.1.2
  have hz9 : TL ++ aBz (byt (zXs xs (i + 1)) (zXs xs (i + 2)) (zXs xs (i + 3)) (zXs xs (i + 4)) (zXs xs (i + 5))) 20 = (TL ++ aBy (zXs xs (i + 1)) 4 ++ aBy (zXs xs (i + 2)) 4 ++ aBy (zXs xs (i + 3)) 4 ++ aBy (zXs xs (i + 4)) 4 ++ aBy (zXs xs (i + 5)) 4) := by rw [aBz_20]; simp only [List.append_assoc]
  have hl9 : TL.length + (aBz (byt (zXs xs (i + 1)) (zXs xs (i + 2)) (zXs xs (i + 3)) (zXs xs (i + 4)) (zXs xs (i + 5))) 20).length = TL.length + ((aBy (zXs xs (i + 1)) 4).length + (aBy (zXs xs (i + 2)) 4).length + (aBy (zXs xs (i + 3)) 4).length + (aBy (zXs xs (i + 4)) 4).length + (aBy (zXs xs (i + 5)) 4).length) := by rw [aBz_20]; simp only [List.length_append]
  refine rs_aload_n (k := 1) dL_law_184 rfl ?_
  refine rs_wj (b := b) 1 hL h0 (by decide) (by omega) rfl rfl dL_law_185 dL_law_186 dL_law_188 dL_law_189 dL_law_190 ?_
  refine rs_wj (b := b) 2 hL h0 (by decide) (by omega) rfl rfl dL_law_191 dL_law_192 dL_law_194 dL_law_195 dL_law_196 ?_
  refine rs_wj (b := b) 3 hL h0 (by decide) (by omega) rfl rfl dL_law_197 dL_law_198 dL_law_200 dL_law_201 dL_law_202 ?_
  refine rs_wj (b := b) 4 hL h0 (by decide) (by omega) rfl rfl dL_law_203 dL_law_204 dL_law_206 dL_law_207 dL_law_208 ?_
  refine rs_wj (b := b) 5 hL h0 (by decide) (by omega) rfl rfl dL_law_209 dL_law_210 dL_law_212 dL_law_213 dL_law_214 ?_
  refine rs_aload_n (k := 3) dL_law_215 rfl ?_
  refine rs_sta (M' := ML_append) (hh := hL_append) (d' := 9) (t' := 1) (n := 7) (As := [_, _, _, _, _, _, _]) (pc := 216) dL_law_216 gL_append ⟨by decide, by decide, by decide +kernel⟩ (by decide) (by omega) (Nat.le_of_ble_eq_true rfl) (Nat.le_of_ble_eq_true rfl) rfl (eL_append (Nat.le_refl _) (eX6_append zXs_R zXs_R zXs_R zXs_R zXs_R hc.2.2.2.2.2.1 (fun g W1 o1 tl => ⟨_, rfl, ?_⟩) (fun g => ⟨rfl, ?_⟩)))
  · have hc1 := (hc.t o1 tl).out (z := (((TL ++ aBy (zXs xs (i + 1)) 4 ++ aBy (zXs xs (i + 2)) 4 ++ aBy (zXs xs (i + 3)) 4 ++ aBy (zXs xs (i + 4)) 4 ++ aBy (zXs xs (i + 5)) 4).length : Nat) : Int))
    have hm1 := (hm.up o1.m).out (z := (((TL ++ aBy (zXs xs (i + 1)) 4 ++ aBy (zXs xs (i + 2)) 4 ++ aBy (zXs xs (i + 3)) 4 ++ aBy (zXs xs (i + 4)) 4 ++ aBy (zXs xs (i + 5)) 4).length : Nat) : Int))
    have hz : zup W1 128 0 ((((TL ++ aBy (zXs xs (i + 1)) 4 ++ aBy (zXs xs (i + 2)) 4 ++ aBy (zXs xs (i + 3)) 4 ++ aBy (zXs xs (i + 4)) 4 ++ aBy (zXs xs (i + 5)) 4).length : Nat) : Int)) 128 0 = (((TL ++ aBy (zXs xs (i + 1)) 4 ++ aBy (zXs xs (i + 2)) 4 ++ aBy (zXs xs (i + 3)) 4 ++ aBy (zXs xs (i + 4)) 4 ++ aBy (zXs xs (i + 5)) 4).length : Nat) : Int) := zup_s
    generalize zup W1 128 0 ((((TL ++ aBy (zXs xs (i + 1)) 4 ++ aBy (zXs xs (i + 2)) 4 ++ aBy (zXs xs (i + 3)) 4 ++ aBy (zXs xs (i + 4)) 4 ++ aBy (zXs xs (i + 5)) 4).length : Nat) : Int)) = W2 at hc1 hm1 hz ⊢
    refine rs_istore (pc := 219) dL_law_219 (by decide) ?_
    refine rs_aload_n (k := 2) (pc := 221) dL_law_221 rfl ?_
    refine rs_wj (b := b) 1 hL h0 (by decide) (by omega) rfl rfl dL_law_222 dL_law_223 dL_law_225 dL_law_226 dL_law_227 ?_
    refine rs_wj (b := b) 2 hL h0 (by decide) (by omega) rfl rfl dL_law_228 dL_law_229 dL_law_231 dL_law_232 dL_law_233 ?_
    refine rs_wj (b := b) 3 hL h0 (by decide) (by omega) rfl rfl dL_law_234 dL_law_235 dL_law_237 dL_law_238 dL_law_239 ?_
    refine rs_wj (b := b) 4 hL h0 (by decide) (by omega) rfl rfl dL_law_240 dL_law_241 dL_law_243 dL_law_244 dL_law_245 ?_
    refine rs_wj (b := b) 5 hL h0 (by decide) (by omega) rfl rfl dL_law_246 dL_law_247 dL_law_249 dL_law_250 dL_law_251 ?_
    refine rs_inv0 (M' := MX7_append) (k := 116) (As := [_, _, _, _, _]) (pc := 252) dL_law_252 lL_107 kX7_append vX7_append zk_116 (by decide) rfl (by decide) (Nat.le_of_ble_eq_true rfl) (Nat.le_of_ble_eq_true rfl) rfl (eX7_append zXs_R zXs_R zXs_R zXs_R zXs_R hm1.2.2.2.1 (fun _ W3 o3 t3 b3 => ?_) (fun g9 => absurd g9 (by rw [hl9]; omega)))
    rw [hz9] at b3 ⊢
    exact rs_tail (m := 255) (k := 0) dL_law_255 dL_law_257 dL_law_258 dL_law_261 dL_law_263 dL_law_268 dL_law_270 dL_law_273 dL_law_274 dL_law_275 dL_law_276 dL_law_278 dL_law_279 dL_law_280 dL_law_285 (by decide) t3 (by unfold zR; omega) (fun h9 => by rw [o3.o]; exact hz) (k _ _ (by omega) (⟨a, n, K, B, S, _, Z, e, hc1.up o3.c, hm1.bb o3 b3, hp.mono (by omega) (by omega)⟩))
  · have hc1 := hc
    have hm1 := hm
    refine rs_istore (pc := 219) dL_law_219 (by decide) ?_
    refine rs_aload_n (k := 2) (pc := 221) dL_law_221 rfl ?_
    refine rs_wj (b := b) 1 hL h0 (by decide) (by omega) rfl rfl dL_law_222 dL_law_223 dL_law_225 dL_law_226 dL_law_227 ?_
    refine rs_wj (b := b) 2 hL h0 (by decide) (by omega) rfl rfl dL_law_228 dL_law_229 dL_law_231 dL_law_232 dL_law_233 ?_
    refine rs_wj (b := b) 3 hL h0 (by decide) (by omega) rfl rfl dL_law_234 dL_law_235 dL_law_237 dL_law_238 dL_law_239 ?_
    refine rs_wj (b := b) 4 hL h0 (by decide) (by omega) rfl rfl dL_law_240 dL_law_241 dL_law_243 dL_law_244 dL_law_245 ?_
    refine rs_wj (b := b) 5 hL h0 (by decide) (by omega) rfl rfl dL_law_246 dL_law_247 dL_law_249 dL_law_250 dL_law_251 ?_
    refine rs_inv0 (M' := MX7_append) (k := 116) (As := [_, _, _, _, _]) (pc := 252) dL_law_252 lL_107 kX7_append vX7_append zk_116 (by decide) rfl (by decide) (Nat.le_of_ble_eq_true rfl) (Nat.le_of_ble_eq_true rfl) rfl (eX7_append zXs_R zXs_R zXs_R zXs_R zXs_R hm1.2.2.2.1 (fun g9 => absurd g9 (by rw [hl9]; omega)) (fun _ W3 o3 t3 b3 => ?_))
    exact rs_tail (m := 255) (k := 1) dL_law_255 dL_law_257 dL_law_258 dL_law_261 dL_law_263 dL_law_268 dL_law_270 dL_law_273 dL_law_274 dL_law_275 dL_law_276 dL_law_278 dL_law_279 dL_law_280 dL_law_285 (by decide) t3 (by unfold zR; omega) (fun h9 => absurd h9 (by decide)) (k _ _ (by omega) (⟨a, n, K, B, S, TL, Z, e, hc1.up o3.c, hm1.bb o3 b3, hp.mono (by omega) (by omega)⟩))
theorem lw_save {b L : Nat} {xs : Nat → Int32} {t : Nat} {W : zWd} {T i : Int} (hL : L ≤ 3072) (h0 : 0 ≤ i) (h1 : i + 6 ≤ L) (ht : 2 ≤ t) (hT : T + 8000 ≤ 100000000) (hI : zIv W T) (k : ∀ (W' : zWd) (t' : Nat), t - 2 ≤ t' → zIv W' (T + 26) → RS b L xs t' W' 1937 (zLS i) []) : RS b L xs t W 1776 (zLS i) [] := by
  obtain ⟨a, n, K, B, S, TL, Z, e, hc, hm, hp⟩ := hI
  have hw := hp.1.1
  have hg := hp.1.2
  refine rs_aload_n (k := 1) dL_law_1776 rfl ?_
  refine rs_wj (b := b) 1 hL h0 (by decide) (by omega) rfl rfl dL_law_1777 dL_law_1778 dL_law_1780 dL_law_1781 dL_law_1782 ?_
  refine rs_sta (M' := ML_save) (hh := hL_save) (d' := 9) (t' := 1) (n := 2) (As := [_, _]) (pc := 1783) dL_law_1783 gL_save ⟨by decide, by decide, by decide +kernel⟩ (by decide) (by omega) (Nat.le_of_ble_eq_true rfl) (Nat.le_of_ble_eq_true rfl) rfl (eL_save (Nat.le_refl _) (eX6_save hc.1 hw hc.2.2.2.2.1 zXs_R (fun g0 g1 W1 o1 s1 => ⟨rfl, ?_⟩) (fun g => ⟨rfl, ?_⟩)))
  · have hc1 := hc.s o1 s1
    have hm1 := hm.up (W' := W1) o1.m
    refine rs_istore (pc := 1786) dL_law_1786 (by decide) ?_
    refine rs_aload_n (k := 2) (pc := 1788) dL_law_1788 rfl ?_
    refine rs_wj (b := b) 1 hL h0 (by decide) (by omega) rfl rfl dL_law_1789 dL_law_1790 dL_law_1792 dL_law_1793 dL_law_1794 ?_
    refine rs_inv0 (M' := MX7_save) (k := 116) (As := [_]) (pc := 1795) dL_law_1795 lL_209 kX7_save vX7_save zk_116 (by decide) rfl (by decide) (Nat.le_of_ble_eq_true rfl) (Nat.le_of_ble_eq_true rfl) rfl (eX7_save hm1.2.2.1 zXs_R (fun g => absurd ⟨g0, by omega⟩ g) (fun _ W3 o3 t3 s3 => ?_))
    exact rs_tailS (m := 1798) (k := 0) dL_law_1798 dL_law_1799 dL_law_1802 dL_law_1804 dL_law_1809 (by decide) t3 (by unfold zR; omega) (k _ _ (by omega) (⟨a, n, K, _, _, TL, Z, e, hc1.up o3.c, hm1.s o3 (by rw [hm1.1] at s3; exact s3), hp.save.mono (by omega) (by omega)⟩))
  · have hc1 := hc
    have hm1 := hm
    refine rs_istore (pc := 1786) dL_law_1786 (by decide) ?_
    refine rs_aload_n (k := 2) (pc := 1788) dL_law_1788 rfl ?_
    refine rs_wj (b := b) 1 hL h0 (by decide) (by omega) rfl rfl dL_law_1789 dL_law_1790 dL_law_1792 dL_law_1793 dL_law_1794 ?_
    refine rs_inv0 (M' := MX7_save) (k := 116) (As := [_]) (pc := 1795) dL_law_1795 lL_209 kX7_save vX7_save zk_116 (by decide) rfl (by decide) (Nat.le_of_ble_eq_true rfl) (Nat.le_of_ble_eq_true rfl) rfl (eX7_save hm1.2.2.1 zXs_R (fun _ W3 o3 t3 s3 => ?_) (fun g9 => absurd ⟨g9.1, by omega⟩ g))
    exact rs_tailS (m := 1798) (k := 1) dL_law_1798 dL_law_1799 dL_law_1802 dL_law_1804 dL_law_1809 (by decide) t3 (by unfold zR; omega) (k _ _ (by omega) (⟨a, n, K, B, S, TL, Z, e, hc1.up o3.c, hm1.s o3 s3, hp.mono (by omega) (by omega)⟩))
theorem lw_writtenByte {b L : Nat} {xs : Nat → Int32} {t : Nat} {W : zWd} {T i : Int} (hL : L ≤ 3072) (h0 : 0 ≤ i) (h1 : i + 6 ≤ L) (ht : 2 ≤ t) (hT : T + 8000 ≤ 100000000) (hI : zIv W T) (k : ∀ (W' : zWd) (t' : Nat), t - 2 ≤ t' → zIv W' (T + 26) → RS b L xs t' W' 1937 (zLS i) []) : RS b L xs t W 1881 (zLS i) [] := by
  obtain ⟨a, n, K, B, S, TL, Z, e, hc, hm, hp⟩ := hI
  have hw := hp.1.1
  have hg := hp.1.2
  refine rs_aload_n (k := 1) dL_law_1881 rfl ?_
  refine rs_wj (b := b) 1 hL h0 (by decide) (by omega) rfl rfl dL_law_1882 dL_law_1883 dL_law_1885 dL_law_1886 dL_law_1887 ?_
  refine rs_aload_n (k := 3) dL_law_1888 rfl ?_
  refine rs_sta (M' := ML_writtenByte) (hh := hL_writtenByte) (d' := 9) (t' := 1) (n := 3) (As := [_, _, _]) (pc := 1889) dL_law_1889 gL_writtenByte ⟨by decide, by decide, by decide +kernel⟩ (by decide) (by omega) (Nat.le_of_ble_eq_true rfl) (Nat.le_of_ble_eq_true rfl) rfl (eL_writtenByte (Nat.le_refl _) (eX6_writtenByte hc.2.2.2.2.2.2.1 hp.2.2.2.1 zXs_R (fun g0 g1 => ⟨_, rfl, ?_⟩) (fun g => ⟨rfl, ?_⟩)))
  · have hc1 := (hc).out (z := (Z.getD (zXs xs (i + 1)).toNat 0))
    have hm1 := (hm).out (z := (Z.getD (zXs xs (i + 1)).toNat 0))
    have hz : zup W 128 0 ((Z.getD (zXs xs (i + 1)).toNat 0)) 128 0 = (Z.getD (zXs xs (i + 1)).toNat 0) := zup_s
    generalize zup W 128 0 ((Z.getD (zXs xs (i + 1)).toNat 0)) = W2 at hc1 hm1 hz ⊢
    refine rs_istore (pc := 1892) dL_law_1892 (by decide) ?_
    refine rs_aload_n (k := 2) (pc := 1894) dL_law_1894 rfl ?_
    refine rs_wj (b := b) 1 hL h0 (by decide) (by omega) rfl rfl dL_law_1895 dL_law_1896 dL_law_1898 dL_law_1899 dL_law_1900 ?_
    refine rs_inv0 (M' := MX7_writtenByte) (k := 116) (As := [_]) (pc := 1901) dL_law_1901 lL_219 kX7_writtenByte vX7_writtenByte zk_116 (by decide) rfl (by decide) (Nat.le_of_ble_eq_true rfl) (Nat.le_of_ble_eq_true rfl) rfl (eX7_writtenByte hm1.2.2.2.2.1 (by have := hp.2.2.2.1; omega) zXs_R (fun _ W3 o3 t3 => ?_) (fun g => absurd ⟨g0, g1⟩ g))
    exact rs_tail (m := 1904) (k := 0) dL_law_1904 dL_law_1906 dL_law_1907 dL_law_1910 dL_law_1912 dL_law_1917 dL_law_1919 dL_law_1922 dL_law_1923 dL_law_1924 dL_law_1925 dL_law_1927 dL_law_1928 dL_law_1929 dL_law_1934 (by decide) t3 (by unfold zR; omega) (fun h9 => by rw [o3.o]; exact hz) (k _ _ (by omega) (⟨a, n, K, B, S, TL, Z, e, hc1.up o3.c, hm1.Q o3, hp.mono (by omega) (by omega)⟩))
  · have hc1 := hc
    have hm1 := hm
    refine rs_istore (pc := 1892) dL_law_1892 (by decide) ?_
    refine rs_aload_n (k := 2) (pc := 1894) dL_law_1894 rfl ?_
    refine rs_wj (b := b) 1 hL h0 (by decide) (by omega) rfl rfl dL_law_1895 dL_law_1896 dL_law_1898 dL_law_1899 dL_law_1900 ?_
    refine rs_inv0 (M' := MX7_writtenByte) (k := 116) (As := [_]) (pc := 1901) dL_law_1901 lL_219 kX7_writtenByte vX7_writtenByte zk_116 (by decide) rfl (by decide) (Nat.le_of_ble_eq_true rfl) (Nat.le_of_ble_eq_true rfl) rfl (eX7_writtenByte hm1.2.2.2.2.1 (by have := hp.2.2.2.1; omega) zXs_R (fun g9 => absurd g9 g) (fun _ W3 o3 t3 => ?_))
    exact rs_tail (m := 1904) (k := 1) dL_law_1904 dL_law_1906 dL_law_1907 dL_law_1910 dL_law_1912 dL_law_1917 dL_law_1919 dL_law_1922 dL_law_1923 dL_law_1924 dL_law_1925 dL_law_1927 dL_law_1928 dL_law_1929 dL_law_1934 (by decide) t3 (by unfold zR; omega) (fun h9 => absurd h9 (by decide)) (k _ _ (by omega) (⟨a, n, K, B, S, TL, Z, e, hc1.up o3.c, hm1.Q o3, hp.mono (by omega) (by omega)⟩))
theorem lw_errorPosition {b L : Nat} {xs : Nat → Int32} {t : Nat} {W : zWd} {T i : Int} (hL : L ≤ 3072) (h0 : 0 ≤ i) (h1 : i + 6 ≤ L) (ht : 2 ≤ t) (hT : T + 8000 ≤ 100000000) (hI : zIv W T) (k : ∀ (W' : zWd) (t' : Nat), t - 2 ≤ t' → zIv W' (T + 26) → RS b L xs t' W' 1937 (zLS i) []) : RS b L xs t W 301 (zLS i) [] := by
  obtain ⟨a, n, K, B, S, TL, Z, e, hc, hm, hp⟩ := hI
  have hw := hp.1.1
  have hg := hp.1.2
  refine rs_aload_n (k := 1) dL_law_301 rfl ?_
  refine rs_inv0 (M' := MX6_errorPosition) (k := 96) (As := []) (pc := 302) dL_law_302 lL_115 kX6_errorPosition vX6_errorPosition zk_96 (by decide) rfl (by decide) (Nat.le_of_ble_eq_true rfl) (Nat.le_of_ble_eq_true rfl) rfl (eX6_errorPosition ?_)
  · have hc1 := hc
    have hm1 := hm
    rw [hc.2.2.2.2.2.2.2, ← hm.2.2.2.2.2]
    refine rs_aload_n (k := 2) (pc := 305) dL_law_305 rfl ?_
    refine rs_inv0 (M' := MX7_errorPosition) (k := 116) (As := []) (pc := 306) dL_law_306 lL_118 kX7_errorPosition vX7_errorPosition zk_116 (by decide) rfl (by decide) (Nat.le_of_ble_eq_true rfl) (Nat.le_of_ble_eq_true rfl) rfl (eX7_errorPosition (fun W3 o3 t3 => ?_))
    exact rs_same (pc := 309) (tgt := 1937) dL_law_309 (by decide) (by rw [hm.2.2.2.2.2]; exact hp.2.2.2.2) (k _ _ (by omega) (⟨a, n, K, B, S, TL, Z, e, hc1.up o3.c, hm1.Q o3, hp.mono (by omega) (by omega)⟩))
theorem lw_firstThrough {b L : Nat} {xs : Nat → Int32} {t : Nat} {W : zWd} {T i : Int} (hL : L ≤ 3072) (h0 : 0 ≤ i) (h1 : i + 6 ≤ L) (ht : 2 ≤ t) (hT : T + 8000 ≤ 100000000) (hI : zIv W T) (k : ∀ (W' : zWd) (t' : Nat), t - 2 ≤ t' → zIv W' (T + 26) → RS b L xs t' W' 1937 (zLS i) []) : RS b L xs t W 1226 (zLS i) [] := by
  obtain ⟨a, n, K, B, S, TL, Z, e, hc, hm, hp⟩ := hI
  have hw := hp.1.1
  have hg := hp.1.2
  refine rs_aload_n (k := 1) dL_law_1226 rfl ?_
  refine rs_inv0 (M' := MX6_firstThrough) (k := 96) (As := []) (pc := 1227) dL_law_1227 lL_166 kX6_firstThrough vX6_firstThrough zk_96 (by decide) rfl (by decide) (Nat.le_of_ble_eq_true rfl) (Nat.le_of_ble_eq_true rfl) rfl (eX6_firstThrough hc.1 hw hc.2.1 (by omega) (fun W1 o1 gg by1 => ?_))
  · have hc1 := hc.p o1 gg by1
    have hm1 := hm.up (W' := W1) o1.m
    refine rs_aload_n (k := 2) (pc := 1230) dL_law_1230 rfl ?_
    refine rs_inv0 (M' := MX7_firstThrough) (k := 116) (As := []) (pc := 1231) dL_law_1231 lL_169 kX7_firstThrough vX7_firstThrough zk_116 (by decide) rfl (by decide) (Nat.le_of_ble_eq_true rfl) (Nat.le_of_ble_eq_true rfl) rfl (eX7_firstThrough hm1.1 hw hm1.2.1 (by omega) (fun W3 o3 t3 k3 e3 => ?_))
    exact rs_same (pc := 1234) (tgt := 1937) dL_law_1234 (by decide) (vFirst_R hw (by omega)) (k _ _ (by omega) (zIv.ea (hc1.up o3.c) (hm1.M o3 rfl k3) (fun i9 g8 g9 => e3 i9 g8 g9) (hp.mono (by omega) (by omega))))
theorem lw_pass {b L : Nat} {xs : Nat → Int32} {t : Nat} {W : zWd} {T i : Int} (hL : L ≤ 3072) (h0 : 0 ≤ i) (h1 : i + 6 ≤ L) (ht : 2 ≤ t) (hT : T + 8000 ≤ 100000000) (hI : zIv W T) (k : ∀ (W' : zWd) (t' : Nat), t - 2 ≤ t' → zIv W' (T + 26) → RS b L xs t' W' 1937 (zLS i) []) : RS b L xs t W 1391 (zLS i) [] := by
  obtain ⟨a, n, K, B, S, TL, Z, e, hc, hm, hp⟩ := hI
  have hw := hp.1.1
  have hg := hp.1.2
  refine rs_aload_n (k := 1) dL_law_1391 rfl ?_
  refine rs_inv0 (M' := MX6_pass) (k := 96) (As := []) (pc := 1392) dL_law_1392 lL_183 kX6_pass vX6_pass zk_96 (by decide) rfl (by decide) (Nat.le_of_ble_eq_true rfl) (Nat.le_of_ble_eq_true rfl) rfl (eX6_pass hc.1 hw hc.2.2.2.1 hc.2.1 (fun W1 o1 gg c1 i1 => ?_))
  · have hc1 := hc.C o1 gg c1 i1
    have hm1 := hm.up (W' := W1) o1.m
    have h4 := hw.2.2.2.2.2.2.2.2.1
    have h4' := hw.2.2.2.2.2.2.2.2.2.1
    have w2' := hw.2.2.2.2.2.1
    refine rs_aload_n (k := 2) (pc := 1395) dL_law_1395 rfl ?_
    refine rs_inv0 (M' := MX7_pass) (k := 116) (As := []) (pc := 1396) dL_law_1396 lL_186 kX7_pass vX7_pass zk_116 (by decide) rfl (by decide) (Nat.le_of_ble_eq_true rfl) (Nat.le_of_ble_eq_true rfl) rfl (eX7_pass hm1.1 hw hm1.2.1 (fun W3 o3 t3 k3 e3 => ?_))
    exact rs_same (pc := 1399) (tgt := 1937) dL_law_1399 (by decide) (by have := Int.emod_nonneg (a 4 + 1) (show a 2 ≠ 0 by omega); have := Int.emod_lt_of_pos (a 4 + 1) (show 0 < a 2 by omega); unfold zR; omega) (k _ _ (by omega) (⟨(aEnd a (a 4) 0), _, _, B, S, TL, Z, e, hc1.up o3.c, hm1.M o3 e3 k3, hp.push (by omega) (by omega) hc.2.2.2.1.2.2.1 ((aEnd_wf hw (by omega) h4 h4' (by omega) (by omega)).mono (by omega) (by omega)) (zTg_end hw (by omega) h4 hg)⟩))
theorem lw_writeCourt {b L : Nat} {xs : Nat → Int32} {t : Nat} {W : zWd} {T i : Int} (hL : L ≤ 3072) (h0 : 0 ≤ i) (h1 : i + 6 ≤ L) (ht : 2 ≤ t) (hT : T + 8000 ≤ 100000000) (hI : zIv W T) (k : ∀ (W' : zWd) (t' : Nat), t - 2 ≤ t' → zIv W' (T + 26) → RS b L xs t' W' 1937 (zLS i) []) : RS b L xs t W 1868 (zLS i) [] := by
  obtain ⟨a, n, K, B, S, TL, Z, e, hc, hm, hp⟩ := hI
  have hw := hp.1.1
  have hg := hp.1.2
  refine rs_aload_n (k := 1) dL_law_1868 rfl ?_
  refine rs_inv0 (M' := MX6_writeCourt) (k := 96) (As := []) (pc := 1869) dL_law_1869 lL_213 kX6_writeCourt vX6_writeCourt zk_96 (by decide) rfl (by decide) (Nat.le_of_ble_eq_true rfl) (Nat.le_of_ble_eq_true rfl) rfl (eX6_writeCourt hc.1 hw (fun W1 o1 w1 => ?_))
  · have hc1 := hc.w o1 w1
    have hm1 := hm.up (W' := W1) o1.m
    have hl := vText_len hw
    refine rs_aload_n (k := 2) (pc := 1872) dL_law_1872 rfl ?_
    refine rs_inv0 (M' := MX7_writeCourt) (k := 116) (As := []) (pc := 1873) dL_law_1873 lL_216 kX7_writeCourt vX7_writeCourt zk_116 (by decide) rfl (by decide) (Nat.le_of_ble_eq_true rfl) (Nat.le_of_ble_eq_true rfl) rfl (eX7_writeCourt hm1.1 hw (fun q q0 q1 => ⟨_, (hc.1.2.2.2.2.2.2.2.2.2.2.1 q q0 q1).2.2.2.2.2.2.2.2.2.1⟩) (fun W3 o3 t3 w3 => ?_))
    exact rs_same (pc := 1876) (tgt := 1937) dL_law_1876 (by decide) (by unfold zR; omega) (k _ _ (by omega) (⟨a, n, K, B, S, TL, vText a, e, hc1.up o3.c, hm1.w o3 w3, zIp.mono (show zIp T a n K B S (vText a) e from ⟨hp.1, hp.2.1, hp.2.2.1, hl, hp.2.2.2.2⟩) (by omega) (by omega)⟩))
theorem lw_load {b L : Nat} {xs : Nat → Int32} {t : Nat} {W : zWd} {T i : Int} (hL : L ≤ 3072) (h0 : 0 ≤ i) (h1 : i + 6 ≤ L) (ht : 2 ≤ t) (hT : T + 8000 ≤ 100000000) (hI : zIv W T) (k : ∀ (W' : zWd) (t' : Nat), t - 2 ≤ t' → zIv W' (T + 26) → RS b L xs t' W' 1937 (zLS i) []) : RS b L xs t W 288 (zLS i) [] := by
  obtain ⟨a, n, K, B, S, TL, Z, e, hc, hm, hp⟩ := hI
  have hw := hp.1.1
  have hg := hp.1.2
  refine rs_aload_n (k := 1) dL_law_288 rfl ?_
  refine rs_inv0 (M' := MX6_load) (k := 96) (As := []) (pc := 289) dL_law_289 lL_111 kX6_load vX6_load zk_96 (by decide) rfl (by decide) (Nat.le_of_ble_eq_true rfl) (Nat.le_of_ble_eq_true rfl) rfl (eX6_load hc.1 hw hc.2.2.2.1 hc.2.1 hc.2.2.2.2.2.1 hc.2.2.1 (fun e9 he W1 o1 by1 tl q1 c1 i1 => ?_) (fun p9 a9 he f9 W1 o1 by1 tl q1 c1 i1 => ?_))
  · have hc1 := hc.l o1 by1 tl q1 c1 i1
    have hm1 := hm.up (W' := W1) o1.m
    refine rs_aload_n (k := 2) (pc := 292) dL_law_292 rfl ?_
    refine rs_inv0 (M' := MX7_load) (k := 116) (As := []) (pc := 293) dL_law_293 lL_114 kX7_load vX7_load zk_116 (by decide) rfl (by decide) (Nat.le_of_ble_eq_true rfl) (Nat.le_of_ble_eq_true rfl) rfl (eX7_load hm1.1 hm1.2.1 hm1.2.2.2.1 (fun p8 a8 h8 => absurd (he.symm.trans h8) (by simp)) (fun e8 h8 W3 o3 t3 b3 q3 l3 k3 e3 => ?_) (fun p8 a8 h8 => absurd (he.symm.trans h8) (by simp)))
    cases he.symm.trans h8
    exact rs_same (pc := 296) (tgt := 1937) dL_law_296 (by decide) (sLoad_R he) (k _ _ (by omega) (zIv.ea (hc1.up o3.c) (hm1.l o3 rfl k3 b3 q3) e3 (zIp.mono (show zIp T a n K B S Z (e9.2 : Int) from ⟨hp.1, hp.2.1, hp.2.2.1, hp.2.2.2.1, by unfold zR; omega⟩) (by omega) (by omega))))
  · have hc1 := hc.l o1 by1 tl q1 c1 i1
    have hm1 := hm.up (W' := W1) o1.m
    have h5 := hw.2.2.2.2.2.2.2.2.2.2.1
    have h5' := hw.2.2.2.2.2.2.2.2.2.2.2.1
    have f8 := aMend_wf f9
    have sq8 := zWf.sq f8
    refine rs_aload_n (k := 2) (pc := 292) dL_law_292 rfl ?_
    refine rs_inv0 (M' := MX7_load) (k := 116) (As := []) (pc := 293) dL_law_293 lL_114 kX7_load vX7_load zk_116 (by decide) rfl (by decide) (Nat.le_of_ble_eq_true rfl) (Nat.le_of_ble_eq_true rfl) rfl (eX7_load hm1.1 hm1.2.1 hm1.2.2.2.1 (fun p8 a8 h8 => by cases he.symm.trans h8; exact f9) (fun e8 h8 => absurd (he.symm.trans h8) (by simp)) (fun p8 a8 h8 W3 o3 t3 b3 q3 k3 e3 => ?_))
    cases he.symm.trans h8
    exact rs_same (pc := 296) (tgt := 1937) dL_law_296 (by decide) (by unfold zR; omega) (k _ _ (by omega) (zIv.ea (hc1.up o3.c) (hm1.l o3 rfl k3 b3 q3) e3 (show zIp (T + 26) _ _ _ B S Z (-1) from ⟨(hp.push (T' := T + 26) (by omega) (by omega) hc.2.2.2.1.2.2.1 (f8.mono (by omega) (by omega)) (zTg_mend f9)).1, (hp.push (T' := T + 26) (by omega) (by omega) hc.2.2.2.1.2.2.1 (f8.mono (by omega) (by omega)) (zTg_mend f9)).2.1, (hp.mono (by omega) (by omega)).2.2.1, hp.2.2.2.1, by unfold zR; omega⟩)))
