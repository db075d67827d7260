/-! WHAT IS WRITTEN -/
def zWt (W : zWd) (L : List Int) : Prop := W 114 1 = L.length ∧ ∀ i : Nat, i < L.length → W 115 i = L.getD i 0
def zOfft (W W' : zWd) : Prop := ∀ k : Nat, k ≠ 114 → k ≠ 115 → W' k = W k
theorem zOfft.rf {W : zWd} : zOfft W W := fun _ _ _ => rfl
theorem zOfft.tr {W W' W'' : zWd} (h : zOfft W W') (h2 : zOfft W' W'') : zOfft W W'' := fun k g1 g2 => (h2 k g1 g2).trans (h k g1 g2)
theorem zOfft.c {W W' : zWd} {c : Nat} {a : Int → Int} (h : zOfft W W') (hc : zCt c) (hR : zCR W c a) : zCR W' c a := CR_off hR (fun k g1 g2 => h k (by have := hc.lt; omega) (by have := hc.lt; omega))
theorem z_bm {v : Int} (h0 : -128 ≤ v) (h1 : v < 128) : v.bmod 256 = v := by
  rw [Int.bmod_def]; omega
theorem z_appD {L : List Int} {v : Int} {i : Nat} (h : i < L.length) : (L ++ [v]).getD i 0 = L.getD i 0 := by
  rw [List.getD_eq_getElem?_getD, List.getD_eq_getElem?_getD, List.getElem?_append_left h]
theorem z_appL {L : List Int} {v : Int} : (L ++ [v]).getD L.length 0 = v := by
  rw [List.getD_eq_getElem?_getD, List.getElem?_append_right (Nat.le_refl _), Nat.sub_self]; rfl
theorem zWt.app {W : zWd} {L : List Int} {v : Int} (h : zWt W L) : zWt (zup (zup W 115 L.length v) 114 1 (L.length + 1)) (L ++ [v]) := by
  refine ⟨by rw [zup_s, List.length_append]; rfl, fun i hi => ?_⟩
  rw [zup_k (by decide)]
  rw [List.length_append] at hi
  have hi : i < L.length + 1 := hi
  by_cases q : i = L.length
  · subst q; rw [zup_s, z_appL]
  · rw [zup_i (by omega), z_appD (by omega)]; exact h.2 i (by omega)
def aNmN (a : Int → Int) (p : Int) : Nat → List Int
  | 0 => []
  | n + 1 => aNmN a p n ++ [aP a p (9 + n)]
def aLn (a : Int → Int) (p : Int) : Nat → Nat → Nat
  | 0, k => k
  | n + 1, k => if aP a p (9 + k) = 0 then k else aLn a p n (k + 1)
def aLen (a : Int → Int) (p : Int) : Nat := aLn a p 8 0
def aNm (a : Int → Int) (p : Int) : List Int := aNmN a p (aLen a p)
theorem aLn_eq {a : Int → Int} {p len : Int} (h : zNam a p len) : ∀ n k : Nat, k + n = 8 → (k : Int) ≤ len → ((aLn a p n k : Nat) : Int) = len := by
  obtain ⟨h0, h8, h1, h2⟩ := h
  intro n
  induction n with
  | zero => intro k hk hl; unfold aLn; omega
  | succ n ih =>
    intro k hk hl
    unfold aLn
    by_cases q : (k : Int) = len
    · rw [if_pos (h2 k (by omega) (by omega))]; exact q
    · rw [if_neg (by have := h1 k (by omega) (by omega); omega)]; exact ih (k + 1) (by omega) (by omega)
theorem aLen_eq {a : Int → Int} {p len : Int} (h : zNam a p len) : ((aLen a p : Nat) : Int) = len := aLn_eq h 8 0 rfl h.1
theorem aNmN_len {a : Int → Int} {p : Int} : ∀ n : Nat, (aNmN a p n).length = n := by
  intro n
  induction n with
  | zero => rfl
  | succ n ih => unfold aNmN; rw [List.length_append, ih]; rfl
/-- the number of a square, two digits at most -/
def sNum (s : Int) : List Int := if s < 10 then [48 + s % 10] else [48 + s / 10, 48 + s % 10]
def sSq (a : Int → Int) (s : Int) : List Int := sNum s ++ (if aO a s = -1 then [] else 64 :: aNm a (aO a s)) ++ (if (zMks a (-1) (a 2).toNat).testBit s.toNat then [42] else [])
def vTx (a : Int → Int) : Nat → List Int
  | 0 => []
  | n + 1 => vTx a n ++ (if (n : Int) + 1 ≤ 1 then [] else if aSd a ((n : Int) + 1) = 1 then [47] else [32]) ++ sSq a ((n : Int) + 1)
def vText (a : Int → Int) : List Int := vTx a (a 1).toNat
theorem aLn_le {a : Int → Int} {p : Int} : ∀ n k : Nat, aLn a p n k ≤ k + n := by
  intro n
  induction n with
  | zero => intro k; exact Nat.le_refl _
  | succ n ih => intro k; unfold aLn; have := ih (k + 1); split <;> omega
theorem aNm_len {a : Int → Int} {p : Int} : (aNm a p).length ≤ 8 := by
  unfold aNm; rw [aNmN_len]; exact aLn_le 8 0
theorem sSq_len {a : Int → Int} {s : Int} : (sSq a s).length ≤ 12 := by
  unfold sSq sNum
  rw [List.length_append, List.length_append]
  have := aNm_len (a := a) (p := aO a s)
  split <;> split <;> split <;> simp only [List.length_cons, List.length_nil] <;> omega
theorem vTx_len {a : Int → Int} : ∀ n : Nat, (vTx a n).length ≤ 13 * n := by
  intro n
  induction n with
  | zero => exact Nat.le_refl _
  | succ n ih =>
    unfold vTx
    rw [List.length_append, List.length_append]
    have := sSq_len (a := a) (s := (n : Int) + 1)
    have h : (if (n : Int) + 1 ≤ 1 then ([] : List Int) else if aSd a ((n : Int) + 1) = 1 then [47] else [32]).length ≤ 1 := by (repeat' split) <;> simp
    omega
theorem dX5_add_0 : decode cX5_add 0 = .ok (.aload_n 0, 1) := by decide +kernel
theorem dX5_add_1 : decode cX5_add 1 = .ok (.getfield 15, 3) := by decide +kernel
theorem dX5_add_4 : decode cX5_add 4 = .ok (.aload_n 0, 1) := by decide +kernel
theorem dX5_add_5 : decode cX5_add 5 = .ok (.getfield 9, 3) := by decide +kernel
theorem dX5_add_8 : decode cX5_add 8 = .ok (.arraylength, 1) := by decide +kernel
theorem dX5_add_9 : decode cX5_add 9 = .ok (.if_icmp .ge 24, 3) := by decide +kernel
theorem dX5_add_12 : decode cX5_add 12 = .ok (.aload_n 0, 1) := by decide +kernel
theorem dX5_add_13 : decode cX5_add 13 = .ok (.getfield 9, 3) := by decide +kernel
theorem dX5_add_16 : decode cX5_add 16 = .ok (.aload_n 0, 1) := by decide +kernel
theorem dX5_add_17 : decode cX5_add 17 = .ok (.getfield 15, 3) := by decide +kernel
theorem dX5_add_20 : decode cX5_add 20 = .ok (.iload_n 1, 1) := by decide +kernel
theorem dX5_add_21 : decode cX5_add 21 = .ok (.i2b, 1) := by decide +kernel
theorem dX5_add_22 : decode cX5_add 22 = .ok (.bastore, 1) := by decide +kernel
theorem dX5_add_23 : decode cX5_add 23 = .ok (.aload_n 0, 1) := by decide +kernel
theorem dX5_add_24 : decode cX5_add 24 = .ok (.dup, 1) := by decide +kernel
theorem dX5_add_25 : decode cX5_add 25 = .ok (.getfield 15, 3) := by decide +kernel
theorem dX5_add_28 : decode cX5_add 28 = .ok (.iconst 1, 1) := by decide +kernel
theorem dX5_add_29 : decode cX5_add 29 = .ok (.iadd, 1) := by decide +kernel
theorem dX5_add_30 : decode cX5_add 30 = .ok (.putfield 15, 3) := by decide +kernel
theorem dX5_add_33 : decode cX5_add 33 = .ok (.return_, 1) := by decide +kernel
theorem eX5_add {W : zWd} {L : List Int} {v : Int} {Q : Option Value → zWd → Prop} {X : zX} (hL : zWt W L) (hl : L.length < 300) (hv0 : -128 ≤ v) (hv1 : v < 128) (hq : ∀ W' : zWd, zOfft W W' → zWt W' (L ++ [v]) → Q none W') : Ev MX5_add 0 0 W [.ref 114, zI v] Q X := by
  refine ev_of (ls := [.ref 114, zI v]) (by decide) rfl (fun _ => rfl) (fun _ => Nat.le_of_ble_eq_true rfl) (Or.inl rfl) ?_
  refine rr_aload_n (pc := 0) dX5_add_0 rfl ?_
  refine rr_getI (pc := 1) (ji := 1) dX5_add_1 fX5_15 zk_114 zr_114_1 rfl ?_
  rw [hL.1]
  refine rr_aload_n (pc := 4) dX5_add_4 rfl ?_
  refine rr_getR (pc := 5) dX5_add_5 fX5_9 zk_114 zr_114_0 ?_
  refine rr_alen (pc := 8) (ni := 300) dX5_add_8 zk_115 (by decide) rfl ?_
  refine rr_icmp_ge (pc := 9) (tgt := 33) dX5_add_9 (by decide) (by unfold zR; omega) (by unfold zR; omega) (fun h9 => ?_) (fun h9 => ?_)
  · omega
  · refine rr_aload_n (pc := 12) dX5_add_12 rfl ?_
    refine rr_getR (pc := 13) dX5_add_13 fX5_9 zk_114 zr_114_0 ?_
    refine rr_aload_n (pc := 16) dX5_add_16 rfl ?_
    refine rr_getI (pc := 17) (ji := 1) dX5_add_17 fX5_15 zk_114 zr_114_1 rfl ?_
    rw [hL.1]
    refine rr_iload_n (pc := 20) dX5_add_20 rfl ?_
    refine rr_i2b (pc := 21) dX5_add_21 ?_
    rw [z_bm hv0 hv1]
    refine rr_bast (pc := 22) dX5_add_22 zk_115 (by omega) (by omega) (by omega) (by omega) ?_
    refine rr_aload_n (pc := 23) dX5_add_23 rfl ?_
    refine rr_dup_r (pc := 24) dX5_add_24 ?_
    refine rr_getI (pc := 25) (ji := 1) dX5_add_25 fX5_15 zk_114 zr_114_1 rfl ?_
    rw [zup_k (show 114 ≠ 115 by decide), hL.1]
    refine rr_iconst (n := 1) dX5_add_28 ?_
    refine rr_iadd (pc := 29) dX5_add_29 ?_
    refine rr_put (pc := 30) (ji := 1) dX5_add_30 fX5_15 fp_5_1 zk_114 zr_114_1 rfl ?_
    exact rr_retv (pc := 33) dX5_add_33 rfl rfl (hq _ (fun k g1 g2 => by rw [zup_other k g1, zup_other k g2]) hL.app)
theorem dX5_addNumber_0 : decode cX5_addNumber 0 = .ok (.iload_n 1, 1) := by decide +kernel
theorem dX5_addNumber_1 : decode cX5_addNumber 1 = .ok (.bipush 10, 2) := by decide +kernel
theorem dX5_addNumber_3 : decode cX5_addNumber 3 = .ok (.if_icmp .lt 14, 3) := by decide +kernel
theorem dX5_addNumber_6 : decode cX5_addNumber 6 = .ok (.aload_n 0, 1) := by decide +kernel
theorem dX5_addNumber_7 : decode cX5_addNumber 7 = .ok (.bipush 48, 2) := by decide +kernel
theorem dX5_addNumber_9 : decode cX5_addNumber 9 = .ok (.iload_n 1, 1) := by decide +kernel
theorem dX5_addNumber_10 : decode cX5_addNumber 10 = .ok (.bipush 10, 2) := by decide +kernel
theorem dX5_addNumber_12 : decode cX5_addNumber 12 = .ok (.idiv, 1) := by decide +kernel
theorem dX5_addNumber_13 : decode cX5_addNumber 13 = .ok (.iadd, 1) := by decide +kernel
theorem dX5_addNumber_14 : decode cX5_addNumber 14 = .ok (.invokevirtual 31, 3) := by decide +kernel
theorem dX5_addNumber_17 : decode cX5_addNumber 17 = .ok (.aload_n 0, 1) := by decide +kernel
theorem dX5_addNumber_18 : decode cX5_addNumber 18 = .ok (.bipush 48, 2) := by decide +kernel
theorem dX5_addNumber_20 : decode cX5_addNumber 20 = .ok (.iload_n 1, 1) := by decide +kernel
theorem dX5_addNumber_21 : decode cX5_addNumber 21 = .ok (.bipush 10, 2) := by decide +kernel
theorem dX5_addNumber_23 : decode cX5_addNumber 23 = .ok (.irem, 1) := by decide +kernel
theorem dX5_addNumber_24 : decode cX5_addNumber 24 = .ok (.iadd, 1) := by decide +kernel
theorem dX5_addNumber_25 : decode cX5_addNumber 25 = .ok (.invokevirtual 31, 3) := by decide +kernel
theorem dX5_addNumber_28 : decode cX5_addNumber 28 = .ok (.return_, 1) := by decide +kernel
theorem eX5_addNumber {W : zWd} {L : List Int} {s : Int} {Q : Option Value → zWd → Prop} {X : zX} (hL : zWt W L) (hl : L.length < 290) (h0 : 1 ≤ s) (h20 : s ≤ 20) (hq : ∀ W' : zWd, zOfft W W' → zWt W' (L ++ sNum s) → Q none W') : Ev MX5_addNumber 1 0 W [.ref 114, zI s] Q X := by
  refine ev_of (ls := [.ref 114, zI s]) (by decide) rfl (fun _ => rfl) (fun _ => Nat.le_of_ble_eq_true rfl) (Or.inl rfl) ?_
  refine rr_iload_n (pc := 0) dX5_addNumber_0 rfl ?_
  refine rr_bipush (n := (10)) dX5_addNumber_1 ?_
  refine rr_icmp_lt (pc := 3) (tgt := 17) dX5_addNumber_3 (by decide) (by unfold zR; omega) (by unfold zR; omega) (fun h3 => ?_) (fun h3 => ?_)
  · refine rr_aload_n (pc := 17) dX5_addNumber_17 rfl ?_
    refine rr_bipush (n := (48)) dX5_addNumber_18 ?_
    refine rr_iload_n (pc := 20) dX5_addNumber_20 rfl ?_
    refine rr_bipush (n := (10)) dX5_addNumber_21 ?_
    refine rr_irem (pc := 23) dX5_addNumber_23 (by omega) (by omega) (by omega) (by omega) ?_
    refine rr_iadd (pc := 24) dX5_addNumber_24 ?_
    refine rr_inv0 (M' := MX5_add) (k := 114) (As := [_]) (pc := 25) dX5_addNumber_25 lX5_31 kX5_add vX5_add zk_114 (by decide) rfl (by decide) (by decide) (Nat.le_of_ble_eq_true rfl) rfl (eX5_add hL (by omega) (by omega) (by omega) (fun W2 o2 t2 => ?_))
    exact rr_retv (pc := 28) dX5_addNumber_28 rfl rfl (hq W2 o2 (by unfold sNum; rw [if_pos (by omega)]; exact t2))
  · refine rr_aload_n (pc := 6) dX5_addNumber_6 rfl ?_
    refine rr_bipush (n := (48)) dX5_addNumber_7 ?_
    refine rr_iload_n (pc := 9) dX5_addNumber_9 rfl ?_
    refine rr_bipush (n := (10)) dX5_addNumber_10 ?_
    refine rr_idiv (pc := 12) dX5_addNumber_12 (by omega) (by omega) (by omega) (by omega) ?_
    refine rr_iadd (pc := 13) dX5_addNumber_13 ?_
    refine rr_inv0 (M' := MX5_add) (k := 114) (As := [_]) (pc := 14) dX5_addNumber_14 lX5_31 kX5_add vX5_add zk_114 (by decide) rfl (by decide) (by decide) (Nat.le_of_ble_eq_true rfl) rfl (eX5_add hL (by omega) (by omega) (by omega) (fun W1 o1 t1 => ?_))
    have hl1 : (L ++ [48 + s / 10]).length < 299 := by rw [List.length_append]; simp; omega
    refine rr_aload_n (pc := 17) dX5_addNumber_17 rfl ?_
    refine rr_bipush (n := (48)) dX5_addNumber_18 ?_
    refine rr_iload_n (pc := 20) dX5_addNumber_20 rfl ?_
    refine rr_bipush (n := (10)) dX5_addNumber_21 ?_
    refine rr_irem (pc := 23) dX5_addNumber_23 (by omega) (by omega) (by omega) (by omega) ?_
    refine rr_iadd (pc := 24) dX5_addNumber_24 ?_
    refine rr_inv0 (M' := MX5_add) (k := 114) (As := [_]) (pc := 25) dX5_addNumber_25 lX5_31 kX5_add vX5_add zk_114 (by decide) rfl (by decide) (by decide) (Nat.le_of_ble_eq_true rfl) rfl (eX5_add t1 (by omega) (by omega) (by omega) (fun W2 o2 t2 => ?_))
    exact rr_retv (pc := 28) dX5_addNumber_28 rfl rfl (hq W2 (o1.tr o2) (by unfold sNum; rw [if_neg (by omega)]; rw [List.append_assoc] at t2; exact t2))
theorem dX5_addName_0 : decode cX5_addName 0 = .ok (.iconst 0, 1) := by decide +kernel
theorem dX5_addName_1 : decode cX5_addName 1 = .ok (.istore_n 3, 1) := by decide +kernel
theorem dX5_addName_2 : decode cX5_addName 2 = .ok (.iload_n 3, 1) := by decide +kernel
theorem dX5_addName_3 : decode cX5_addName 3 = .ok (.aload_n 1, 1) := by decide +kernel
theorem dX5_addName_4 : decode cX5_addName 4 = .ok (.getfield 46, 3) := by decide +kernel
theorem dX5_addName_7 : decode cX5_addName 7 = .ok (.iload_n 2, 1) := by decide +kernel
theorem dX5_addName_8 : decode cX5_addName 8 = .ok (.iaload, 1) := by decide +kernel
theorem dX5_addName_9 : decode cX5_addName 9 = .ok (.if_icmp .ge 24, 3) := by decide +kernel
theorem dX5_addName_12 : decode cX5_addName 12 = .ok (.aload_n 0, 1) := by decide +kernel
theorem dX5_addName_13 : decode cX5_addName 13 = .ok (.aload_n 1, 1) := by decide +kernel
theorem dX5_addName_14 : decode cX5_addName 14 = .ok (.getfield 49, 3) := by decide +kernel
theorem dX5_addName_17 : decode cX5_addName 17 = .ok (.iload_n 2, 1) := by decide +kernel
theorem dX5_addName_18 : decode cX5_addName 18 = .ok (.bipush 8, 2) := by decide +kernel
theorem dX5_addName_20 : decode cX5_addName 20 = .ok (.imul, 1) := by decide +kernel
theorem dX5_addName_21 : decode cX5_addName 21 = .ok (.iload_n 3, 1) := by decide +kernel
theorem dX5_addName_22 : decode cX5_addName 22 = .ok (.iadd, 1) := by decide +kernel
theorem dX5_addName_23 : decode cX5_addName 23 = .ok (.baload, 1) := by decide +kernel
theorem dX5_addName_24 : decode cX5_addName 24 = .ok (.invokevirtual 31, 3) := by decide +kernel
theorem dX5_addName_27 : decode cX5_addName 27 = .ok (.iinc 3 1, 3) := by decide +kernel
theorem dX5_addName_30 : decode cX5_addName 30 = .ok (.goto (-28), 3) := by decide +kernel
theorem dX5_addName_33 : decode cX5_addName 33 = .ok (.return_, 1) := by decide +kernel
theorem eX5_addName {W : zWd} {L : List Int} {a : Int → Int} {p : Int} {Q : Option Value → zWd → Prop} {X : zX} (hR : zCR W 0 a) (h0 : 0 ≤ p) (h1 : p < a 2) (h6 : a 2 ≤ 6) (hL : zWt W L) (hl : L.length < 290) (hq : ∀ W' : zWd, zOfft W W' → zWt W' (L ++ aNm a p) → Q none W') : Ev MX5_addName 1 0 W [.ref 114, .ref 0, zI p] Q X := by
  refine ev_of (ls := [.ref 114, .ref 0, zI p, .null]) (by decide) rfl (fun _ => rfl) (fun _ => Nat.le_of_ble_eq_true rfl) (Or.inl rfl) ?_
  have loop : ∀ (n : Nat) (i : Nat) (Wi : zWd), i ≤ aLen a p → zOfft W Wi → zWt Wi (L ++ aNmN a p i) → aLen a p - i < n → RR MX5_addName 1 0 Wi 2 [.ref 114, .ref 0, zI p, zI (i : Int)] [] (zEnd MX5_addName Q X) X := by
    intro n
    induction n with
    | zero => intro i Wi _ _ _ hm9; omega
    | succ n ih =>
      intro i Wi h2 hO hT hm9
      have hC := hO.c zCt_0 hR
      obtain ⟨b1, b2⟩ := (hC.2.2.2.2.2.2.2.2.2.2.1 p h0 h1).2.2.2.2.2.2.2.2.2
      have hll := aLen_eq b1
      have b8 := b1.2.1
      have hi9 := aLn_le (a := a) (p := p) 8 0
      refine rr_iload_n (pc := 2) dX5_addName_2 rfl ?_
      refine rr_aload_n (pc := 3) dX5_addName_3 rfl ?_
      refine rr_getR (pc := 4) dX5_addName_4 fX5_46 zCt_0.k zCt_0.r14 ?_
      refine rr_iload_n (pc := 7) dX5_addName_7 rfl ?_
      refine rr_iald (pc := 8) dX5_addName_8 zCt_0.a7 (by omega) (by omega) ?_
      rw [← hll]
      refine rr_icmp_ge (pc := 9) (tgt := 33) dX5_addName_9 (by decide) (by unfold zR; omega) (by unfold zR; omega) (fun h9 => ?_) (fun h9 => ?_)
      · rw [show i = aLen a p by omega] at hT
        exact rr_retv (pc := 33) dX5_addName_33 rfl rfl (hq Wi hO hT)
      · refine rr_aload_n (pc := 12) dX5_addName_12 rfl ?_
        refine rr_aload_n (pc := 13) dX5_addName_13 rfl ?_
        refine rr_getR (pc := 14) dX5_addName_14 fX5_49 zCt_0.k zCt_0.r13 ?_
        refine rr_iload_n (pc := 17) dX5_addName_17 rfl ?_
        refine rr_bipush (n := (8)) dX5_addName_18 ?_
        refine rr_imul (pc := 20) dX5_addName_20 ?_
        refine rr_iload_n (pc := 21) dX5_addName_21 rfl ?_
        refine rr_iadd (pc := 22) dX5_addName_22 ?_
        refine rr_bald (pc := 23) dX5_addName_23 zCt_0.a6 (by omega) (by omega) ?_
        rw [b2 i (by omega) (by omega)]
        have hlt := b1.2.2.1 i (by omega) (by omega)
        refine rr_inv0 (M' := MX5_add) (k := 114) (As := [_]) (pc := 24) dX5_addName_24 lX5_31 kX5_add vX5_add zk_114 (by decide) rfl (by decide) (by decide) (Nat.le_of_ble_eq_true rfl) rfl (eX5_add hT (by rw [List.length_append, aNmN_len]; omega) (by omega) (by omega) (fun W1 o1 t1 => ?_))
        refine rr_iinc (pc := 27) dX5_addName_27 rfl (by decide) ?_
        refine rr_goto (pc := 30) (tgt := 2) dX5_addName_30 (by decide) ?_
        exact ih (i + 1) W1 (by omega) (hO.tr o1) (by rw [List.append_assoc] at t1; exact t1) (by omega)
  refine rr_iconst (n := 0) dX5_addName_0 ?_
  refine rr_istore_n (pc := 1) dX5_addName_1 (by decide) ?_
  exact loop _ 0 W (Nat.zero_le _) zOfft.rf (by rw [show aNmN a p 0 = [] from rfl, List.append_nil]; exact hL) (Nat.lt_succ_self _)
theorem vTx_step {a : Int → Int} {i : Int} (h : 1 ≤ i) : vTx a i.toNat = vTx a (i - 1).toNat ++ (if i ≤ 1 then [] else if aSd a i = 1 then [47] else [32]) ++ sSq a i := by
  rw [show i.toNat = (i - 1).toNat + 1 by omega]
  unfold vTx
  rw [show (((i - 1).toNat : Nat) : Int) + 1 = i by omega]
  cases (i - 1).toNat <;> rfl
theorem dX5_write_0 : decode cX5_write 0 = .ok (.aload_n 0, 1) := by decide +kernel
theorem dX5_write_1 : decode cX5_write 1 = .ok (.iconst 0, 1) := by decide +kernel
theorem dX5_write_2 : decode cX5_write 2 = .ok (.putfield 15, 3) := by decide +kernel
theorem dX5_write_5 : decode cX5_write 5 = .ok (.aload_n 1, 1) := by decide +kernel
theorem dX5_write_6 : decode cX5_write 6 = .ok (.iconst (-1), 1) := by decide +kernel
theorem dX5_write_7 : decode cX5_write 7 = .ok (.invokevirtual 19, 3) := by decide +kernel
theorem dX5_write_10 : decode cX5_write 10 = .ok (.istore_n 2, 1) := by decide +kernel
theorem dX5_write_11 : decode cX5_write 11 = .ok (.iconst 1, 1) := by decide +kernel
theorem dX5_write_12 : decode cX5_write 12 = .ok (.istore_n 3, 1) := by decide +kernel
theorem dX5_write_13 : decode cX5_write 13 = .ok (.iload_n 3, 1) := by decide +kernel
theorem dX5_write_14 : decode cX5_write 14 = .ok (.aload_n 1, 1) := by decide +kernel
theorem dX5_write_15 : decode cX5_write 15 = .ok (.getfield 25, 3) := by decide +kernel
theorem dX5_write_18 : decode cX5_write 18 = .ok (.if_icmp .gt 81, 3) := by decide +kernel
theorem dX5_write_21 : decode cX5_write 21 = .ok (.iload_n 3, 1) := by decide +kernel
theorem dX5_write_22 : decode cX5_write 22 = .ok (.iconst 1, 1) := by decide +kernel
theorem dX5_write_23 : decode cX5_write 23 = .ok (.if_icmp .le 23, 3) := by decide +kernel
theorem dX5_write_26 : decode cX5_write 26 = .ok (.aload_n 0, 1) := by decide +kernel
theorem dX5_write_27 : decode cX5_write 27 = .ok (.aload_n 1, 1) := by decide +kernel
theorem dX5_write_28 : decode cX5_write 28 = .ok (.iload_n 3, 1) := by decide +kernel
theorem dX5_write_29 : decode cX5_write 29 = .ok (.invokevirtual 28, 3) := by decide +kernel
theorem dX5_write_32 : decode cX5_write 32 = .ok (.iconst 1, 1) := by decide +kernel
theorem dX5_write_33 : decode cX5_write 33 = .ok (.if_icmp .ne 8, 3) := by decide +kernel
theorem dX5_write_36 : decode cX5_write 36 = .ok (.bipush 47, 2) := by decide +kernel
theorem dX5_write_38 : decode cX5_write 38 = .ok (.goto 5, 3) := by decide +kernel
theorem dX5_write_41 : decode cX5_write 41 = .ok (.bipush 32, 2) := by decide +kernel
theorem dX5_write_43 : decode cX5_write 43 = .ok (.invokevirtual 31, 3) := by decide +kernel
theorem dX5_write_46 : decode cX5_write 46 = .ok (.aload_n 0, 1) := by decide +kernel
theorem dX5_write_47 : decode cX5_write 47 = .ok (.iload_n 3, 1) := by decide +kernel
theorem dX5_write_48 : decode cX5_write 48 = .ok (.invokevirtual 35, 3) := by decide +kernel
theorem dX5_write_51 : decode cX5_write 51 = .ok (.aload_n 1, 1) := by decide +kernel
theorem dX5_write_52 : decode cX5_write 52 = .ok (.getfield 38, 3) := by decide +kernel
theorem dX5_write_55 : decode cX5_write 55 = .ok (.iload_n 3, 1) := by decide +kernel
theorem dX5_write_56 : decode cX5_write 56 = .ok (.iaload, 1) := by decide +kernel
theorem dX5_write_57 : decode cX5_write 57 = .ok (.iconst (-1), 1) := by decide +kernel
theorem dX5_write_58 : decode cX5_write 58 = .ok (.if_icmp .eq 20, 3) := by decide +kernel
theorem dX5_write_61 : decode cX5_write 61 = .ok (.aload_n 0, 1) := by decide +kernel
theorem dX5_write_62 : decode cX5_write 62 = .ok (.bipush 64, 2) := by decide +kernel
theorem dX5_write_64 : decode cX5_write 64 = .ok (.invokevirtual 31, 3) := by decide +kernel
theorem dX5_write_67 : decode cX5_write 67 = .ok (.aload_n 0, 1) := by decide +kernel
theorem dX5_write_68 : decode cX5_write 68 = .ok (.aload_n 1, 1) := by decide +kernel
theorem dX5_write_69 : decode cX5_write 69 = .ok (.aload_n 1, 1) := by decide +kernel
theorem dX5_write_70 : decode cX5_write 70 = .ok (.getfield 38, 3) := by decide +kernel
theorem dX5_write_73 : decode cX5_write 73 = .ok (.iload_n 3, 1) := by decide +kernel
theorem dX5_write_74 : decode cX5_write 74 = .ok (.iaload, 1) := by decide +kernel
theorem dX5_write_75 : decode cX5_write 75 = .ok (.invokevirtual 42, 3) := by decide +kernel
theorem dX5_write_78 : decode cX5_write 78 = .ok (.iload_n 2, 1) := by decide +kernel
theorem dX5_write_79 : decode cX5_write 79 = .ok (.iload_n 3, 1) := by decide +kernel
theorem dX5_write_80 : decode cX5_write 80 = .ok (.ishr, 1) := by decide +kernel
theorem dX5_write_81 : decode cX5_write 81 = .ok (.iconst 1, 1) := by decide +kernel
theorem dX5_write_82 : decode cX5_write 82 = .ok (.iand, 1) := by decide +kernel
theorem dX5_write_83 : decode cX5_write 83 = .ok (.iconst 1, 1) := by decide +kernel
theorem dX5_write_84 : decode cX5_write 84 = .ok (.if_icmp .ne 9, 3) := by decide +kernel
theorem dX5_write_87 : decode cX5_write 87 = .ok (.aload_n 0, 1) := by decide +kernel
theorem dX5_write_88 : decode cX5_write 88 = .ok (.bipush 42, 2) := by decide +kernel
theorem dX5_write_90 : decode cX5_write 90 = .ok (.invokevirtual 31, 3) := by decide +kernel
theorem dX5_write_93 : decode cX5_write 93 = .ok (.iinc 3 1, 3) := by decide +kernel
theorem dX5_write_96 : decode cX5_write 96 = .ok (.goto (-83), 3) := by decide +kernel
theorem dX5_write_99 : decode cX5_write 99 = .ok (.return_, 1) := by decide +kernel
theorem eX5_write {W : zWd} {a : Int → Int} {T : Int} {Q : Option Value → zWd → Prop} {X : zX} (hR : zCR W 0 a) (hw : zWf T a) (hq : ∀ W' : zWd, zOfft W W' → zWt W' (vText a) → Q none W') : Ev MX5_write 2 0 W [.ref 114, .ref 0] Q X := by
  refine ev_of (ls := [.ref 114, .ref 0, .null, .null]) (by decide) rfl (fun _ => rfl) (fun _ => Nat.le_of_ble_eq_true rfl) (Or.inl rfl) ?_
  obtain ⟨r0, r1, r2, r3, r4, r5, r6, r7, rF, rS, rP, rB⟩ := id hR
  obtain ⟨w0, w0', wW, w1, w2, w2', w3, w3', w4, w4', w5, w5', w6, w6', w7, w7', wS, wP, wT⟩ := id hw
  have wq := zWf.sq hw
  have loop : ∀ (n : Nat) (i : Int) (Wi : zWd), 1 ≤ i → i ≤ a 1 + 1 → zOfft W Wi → zWt Wi (vTx a (i - 1).toNat) → (a 1 + 1 - i).toNat < n → RR MX5_write 2 0 Wi 13 [.ref 114, .ref 0, zI (zMks a (-1) (a 2).toNat : Nat), zI i] [] (zEnd MX5_write Q X) X := by
    intro n
    induction n with
    | zero => intro i Wi _ _ _ _ hm9; omega
    | succ n ih =>
      intro i Wi h1 h2 hO hT hm9
      have hC := hO.c zCt_0 hR
      have q1 := hC.2.1
      refine rr_iload_n (pc := 13) dX5_write_13 rfl ?_
      refine rr_aload_n (pc := 14) dX5_write_14 rfl ?_
      refine rr_getI (pc := 15) (ji := 1) dX5_write_15 fX5_25 zCt_0.k zCt_0.i1 rfl ?_
      rw [q1]
      refine rr_icmp_gt (pc := 18) (tgt := 99) dX5_write_18 (by decide) (by unfold zR; omega) (by unfold zR; omega) (fun h18 => ?_) (fun h18 => ?_)
      · exact rr_retv (pc := 99) dX5_write_99 rfl rfl (hq Wi hO (by unfold vText; rw [show (a 1).toNat = (i - 1).toNat by omega]; exact hT))
      · have hv := vTx_len (a := a) (i - 1).toNat
        have hv9 : 13 * (i - 1).toNat ≤ 260 := by omega
        have hsp := vTx_step (a := a) h1
        have hmk := zMks_21 (w := -1) hw
        have hsd := aSd_rng hw h1 (show i ≤ a 1 by omega)
        have tail2 : ∀ (W2 : zWd) (L2 : List Int), zOfft W W2 → zWt W2 L2 → L2.length ≤ 13 * (i - 1).toNat + 12 → vTx a i.toNat = L2 ++ (if (zMks a (-1) (a 2).toNat).testBit i.toNat then [42] else []) → RR MX5_write 2 0 W2 78 [.ref 114, .ref 0, zI (zMks a (-1) (a 2).toNat : Nat), zI i] [] (zEnd MX5_write Q X) X := by
          intro W2 L2 hO2 u2 l2 e2
          refine rr_iload_n (pc := 78) dX5_write_78 rfl ?_
          refine rr_iload_n (pc := 79) dX5_write_79 rfl ?_
          refine rr_ishr (pc := 80) dX5_write_80 (by unfold zR; omega) (by omega) (by omega) ?_
          refine rr_iconst (n := 1) dX5_write_81 ?_
          refine rr_iandm (pc := 82) 1 dX5_write_82 (by decide) rfl ?_
          refine rr_iconst (n := 1) dX5_write_83 ?_
          refine rr_icmp_ne (pc := 84) (tgt := 93) dX5_write_84 (by decide) (by unfold zR; omega) (by unfold zR; omega) (fun h84 => ?_) (fun h84 => ?_)
          · refine rr_iinc (pc := 93) dX5_write_93 rfl (by decide) ?_
            refine rr_goto (pc := 96) (tgt := 13) dX5_write_96 (by decide) ?_
            exact ih (i + 1) W2 (by omega) (by omega) hO2 (by rw [show (i + 1 - 1).toNat = i.toNat by omega, e2, if_neg (fun z => h84 (z_bit.mpr z)), List.append_nil]; exact u2) (by omega)
          · refine rr_aload_n (pc := 87) dX5_write_87 rfl ?_
            refine rr_bipush (n := (42)) dX5_write_88 ?_
            refine rr_inv0 (M' := MX5_add) (k := 114) (As := [_]) (pc := 90) dX5_write_90 lX5_31 kX5_add vX5_add zk_114 (by decide) rfl (by decide) (by decide) (Nat.le_of_ble_eq_true rfl) rfl (eX5_add u2 (by omega) (by omega) (by omega) (fun W3 o3 u3 => ?_))
            refine rr_iinc (pc := 93) dX5_write_93 rfl (by decide) ?_
            refine rr_goto (pc := 96) (tgt := 13) dX5_write_96 (by decide) ?_
            exact ih (i + 1) W3 (by omega) (by omega) (hO2.tr o3) (by rw [show (i + 1 - 1).toNat = i.toNat by omega, e2, if_pos (z_bit.mp h84)]; exact u3) (by omega)
        have tail : ∀ (W1 : zWd) (L1 : List Int), zOfft W W1 → zWt W1 L1 → L1.length ≤ 13 * (i - 1).toNat + 1 → vTx a i.toNat = L1 ++ sSq a i → RR MX5_write 2 0 W1 46 [.ref 114, .ref 0, zI (zMks a (-1) (a 2).toNat : Nat), zI i] [] (zEnd MX5_write Q X) X := by
          intro W1 L1 hO1 u1 l1 e1
          refine rr_aload_n (pc := 46) dX5_write_46 rfl ?_
          refine rr_iload_n (pc := 47) dX5_write_47 rfl ?_
          refine rr_inv0 (M' := MX5_addNumber) (k := 114) (As := [_]) (pc := 48) dX5_write_48 lX5_35 kX5_addNumber vX5_addNumber zk_114 (by decide) rfl (by decide) (by decide) (Nat.le_of_ble_eq_true rfl) rfl (eX5_addNumber u1 (by omega) h1 (by omega) (fun W2 o2 u2 => ?_))
          have hs : (sNum i).length ≤ 2 := by unfold sNum; split <;> simp
          have hl2 : (L1 ++ sNum i).length ≤ 13 * (i - 1).toNat + 3 := by rw [List.length_append]; omega
          have hO2 := hO1.tr o2
          have c2 := hO2.c zCt_0 hR
          have hs3 := (c2.2.2.2.2.2.2.2.2.2.1 i h1 (by omega) (by omega)).2.1
          have hs4 := wS i h1 (by omega)
          refine rr_aload_n (pc := 51) dX5_write_51 rfl ?_
          refine rr_getR (pc := 52) dX5_write_52 fX5_38 zCt_0.k zCt_0.r10 ?_
          refine rr_iload_n (pc := 55) dX5_write_55 rfl ?_
          refine rr_iald (pc := 56) dX5_write_56 zCt_0.a3 (by omega) (by omega) ?_
          rw [hs3]
          refine rr_iconst (n := (-1)) dX5_write_57 ?_
          refine rr_icmp_eq (pc := 58) (tgt := 78) dX5_write_58 (by decide) (by unfold zR; omega) (by unfold zR; omega) (fun h58 => ?_) (fun h58 => ?_)
          · exact tail2 W2 _ hO2 u2 (by omega) (by
              rw [e1]
              unfold sSq
              rw [if_pos h58, List.append_nil, List.append_assoc])
          · refine rr_aload_n (pc := 61) dX5_write_61 rfl ?_
            refine rr_bipush (n := (64)) dX5_write_62 ?_
            refine rr_inv0 (M' := MX5_add) (k := 114) (As := [_]) (pc := 64) dX5_write_64 lX5_31 kX5_add vX5_add zk_114 (by decide) rfl (by decide) (by decide) (Nat.le_of_ble_eq_true rfl) rfl (eX5_add u2 (by omega) (by omega) (by omega) (fun W3 o3 u3 => ?_))
            have hl3 : (L1 ++ sNum i ++ [64]).length ≤ 13 * (i - 1).toNat + 4 := by rw [List.length_append]; exact Nat.succ_le_succ hl2
            have hO3 := hO2.tr o3
            have c3 := hO3.c zCt_0 hR
            have hs5 := (c3.2.2.2.2.2.2.2.2.2.1 i h1 (by omega) (by omega)).2.1
            refine rr_aload_n (pc := 67) dX5_write_67 rfl ?_
            refine rr_aload_n (pc := 68) dX5_write_68 rfl ?_
            refine rr_aload_n (pc := 69) dX5_write_69 rfl ?_
            refine rr_getR (pc := 70) dX5_write_70 fX5_38 zCt_0.k zCt_0.r10 ?_
            refine rr_iload_n (pc := 73) dX5_write_73 rfl ?_
            refine rr_iald (pc := 74) dX5_write_74 zCt_0.a3 (by omega) (by omega) ?_
            rw [hs5]
            refine rr_inv0 (M' := MX5_addName) (k := 114) (As := [_, _]) (pc := 75) dX5_write_75 lX5_42 kX5_addName vX5_addName zk_114 (by decide) rfl (by decide) (by decide) (Nat.le_of_ble_eq_true rfl) rfl (eX5_addName c3 (by omega) hs4.2.1 w2' u3 (by omega) (fun W4 o4 u4 => ?_))
            have hnm := aNm_len (a := a) (p := aO a i)
            exact tail2 W4 _ (hO3.tr o4) u4 (by rw [List.length_append]; omega) (by
              rw [e1]
              unfold sSq
              rw [if_neg h58]
              simp only [List.append_assoc, List.cons_append, List.nil_append])
        refine rr_iload_n (pc := 21) dX5_write_21 rfl ?_
        refine rr_iconst (n := 1) dX5_write_22 ?_
        refine rr_icmp_le (pc := 23) (tgt := 46) dX5_write_23 (by decide) (by unfold zR; omega) (by unfold zR; omega) (fun h23 => ?_) (fun h23 => ?_)
        · exact tail Wi _ hO hT (by omega) (by rw [hsp, if_pos (by omega), List.append_nil])
        · refine rr_aload_n (pc := 26) dX5_write_26 rfl ?_
          refine rr_aload_n (pc := 27) dX5_write_27 rfl ?_
          refine rr_iload_n (pc := 28) dX5_write_28 rfl ?_
          refine rr_invN (M' := MX0_sideOf) (k := 0) (As := [_]) (pc := 29) dX5_write_29 lX5_28 kX0_sideOf vX0_sideOf zCt_0.k (by decide) rfl (by decide) (by decide) (Nat.le_of_ble_eq_true rfl) rfl (eX0_sideOf zCt_0 hC hw h1 (by omega) ?_)
          refine rr_iconst (n := 1) dX5_write_32 ?_
          refine rr_icmp_ne (pc := 33) (tgt := 41) dX5_write_33 (by decide) (by unfold aSd at hsd; unfold zR; omega) (by unfold zR; omega) (fun h33 => ?_) (fun h33 => ?_)
          · refine rr_bipush (n := (32)) dX5_write_41 ?_
            refine rr_inv0 (M' := MX5_add) (k := 114) (As := [_]) (pc := 43) dX5_write_43 lX5_31 kX5_add vX5_add zk_114 (by decide) rfl (by decide) (by decide) (Nat.le_of_ble_eq_true rfl) rfl (eX5_add hT (by omega) (by omega) (by omega) (fun W1 o1 u1 => ?_))
            exact tail W1 _ (hO.tr o1) u1 (by rw [List.length_append]; exact Nat.succ_le_succ hv) (by rw [hsp, if_neg (by omega), if_neg (show ¬ aSd a i = 1 from h33)])
          · refine rr_bipush (n := (47)) dX5_write_36 ?_
            refine rr_goto (pc := 38) (tgt := 43) dX5_write_38 (by decide) ?_
            refine rr_inv0 (M' := MX5_add) (k := 114) (As := [_]) (pc := 43) dX5_write_43 lX5_31 kX5_add vX5_add zk_114 (by decide) rfl (by decide) (by decide) (Nat.le_of_ble_eq_true rfl) rfl (eX5_add hT (by omega) (by omega) (by omega) (fun W1 o1 u1 => ?_))
            exact tail W1 _ (hO.tr o1) u1 (by rw [List.length_append]; exact Nat.succ_le_succ hv) (by rw [hsp, if_neg (by omega), if_pos (show aSd a i = 1 from h33)])
  refine rr_aload_n (pc := 0) dX5_write_0 rfl ?_
  refine rr_iconst (n := 0) dX5_write_1 ?_
  refine rr_put (pc := 2) (ji := 1) dX5_write_2 fX5_15 fp_5_1 zk_114 zr_114_1 rfl ?_
  have o0 : zOfft W (zup W 114 1 0) := fun k g1 _ => zup_other k g1
  have t0 : zWt (zup W 114 1 0) [] := ⟨zup_s, fun i hi => by cases hi⟩
  generalize zup W 114 1 0 = W0 at o0 t0 ⊢
  have c0 := o0.c zCt_0 hR
  refine rr_aload_n (pc := 5) dX5_write_5 rfl ?_
  refine rr_iconst (n := (-1)) dX5_write_6 ?_
  refine rr_invN (M' := MX0_markedSquares) (k := 0) (As := [_]) (pc := 7) dX5_write_7 lX5_19 kX0_markedSquares vX0_markedSquares zCt_0.k (by decide) rfl (by decide) (by decide) (Nat.le_of_ble_eq_true rfl) rfl (eX0_markedSquares zCt_0 c0 hw (by unfold zR; omega) ?_)
  refine rr_istore_n (pc := 10) dX5_write_10 (by decide) ?_
  refine rr_iconst (n := 1) dX5_write_11 ?_
  refine rr_istore_n (pc := 12) dX5_write_12 (by decide) ?_
  exact loop _ 1 W0 (by omega) (by omega) o0 t0 (Nat.lt_succ_self _)
