/-! the reference's reader: words, signs, numbers -/
def zOfR (W W' : zWd) : Prop := (∀ k : Nat, k ≠ 116 → k ≠ 117 → W' k = W k) ∧ ∀ j : Int, (j < 10 ∨ 15 < j) → W' 116 j = W 116 j
theorem zOfR.rf {W : zWd} : zOfR W W := ⟨fun _ _ _ => rfl, fun _ _ => rfl⟩
theorem zOfR.tr {W W' W'' : zWd} (h : zOfR W W') (h2 : zOfR W' W'') : zOfR W W'' := ⟨fun k g1 g2 => (h2.1 k g1 g2).trans (h.1 k g1 g2), fun j g => (h2.2 j g).trans (h.2 j g)⟩
theorem zOfr2.R {W W' : zWd} (h : zOfr2 W W') : zOfR W W' := ⟨fun k g1 _ => h.1 k g1, fun j g => h.2 j (by omega)⟩
theorem zOfm.R {W W' : zWd} (h : zOfm W W') : zOfR W W' := ⟨fun k _ g2 => h k g2, fun j _ => by rw [h 116 (by decide)]⟩
/-- the row but the number of players, which is d less while a player is read -/
def zRw (W : zWd) (d : Int) (a : Int → Int) : Prop := (∀ j : Int, 0 ≤ j → j < 160 → j ≠ 2 → W 117 j = a j) ∧ W 117 2 = a 2 - d ∧ 0 ≤ W 117 2 ∧ W 117 2 ≤ 6
def zGd (W : zWd) (B : Nat → Int) (N p : Nat) : Prop := zMT W B N ∧ zMk W B N p ∧ W 116 14 = 0
def zBd (W : zWd) (d c : Int) (p : Nat) : Prop := W 116 14 = c ∧ -5 ≤ c ∧ c ≤ -2 ∧ W 116 15 = p ∧ p ≤ 600 ∧ 0 ≤ W 117 2 ∧ W 117 2 ≤ 7 - d
/-- the numbers of a court that is read, all of them small -/
def zPs (a : Int → Int) : Prop := zPf a ∧ ∀ j : Int, 0 ≤ j → j < 160 → -1000 ≤ a j ∧ a j ≤ 1000
def zMR (W : zWd) (B : Nat → Int) (N : Nat) (d : Int) : zRs → Prop
  | .inl e => zBd W d e.1 e.2
  | .inr g => zGd W B N g.1 ∧ zRw W d g.2 ∧ zPs g.2
def sWr (B : Nat → Int) (N : Nat) (w : List Int) : zRs → Bool
  | .inl _ => false
  | .inr g => sW B N g.1 w
def sGr (B : Nat → Int) (N : Nat) (c : Int) : zRs → Bool
  | .inl _ => false
  | .inr g => decide (g.1 < N ∧ B g.1 = c)
theorem sEd_rng {B : Nat → Int} {N p : Nat} (h : p ≤ N) : p ≤ sEd B N p ∧ sEd B N p ≤ N := by
  unfold sEd
  split
  · omega
  · split
    · exact sRun_rng _ _ h
    · split
      · exact sRun_rng _ _ h
      · omega
theorem sKd_rng {B : Nat → Int} {N p : Nat} : 0 ≤ sKd B N p ∧ sKd B N p ≤ 3 := by
  unfold sKd; (repeat' split) <;> omega
theorem sKd_0 {B : Nat → Int} {N p : Nat} : sKd B N p = 0 ↔ p < N ∧ fLe (B p) = true := by
  unfold sKd
  by_cases h1 : N ≤ p
  · rw [if_pos h1]; exact ⟨fun h => by omega, fun h => by omega⟩
  · rw [if_neg h1]
    by_cases h2 : fLe (B p) = true
    · rw [if_pos h2]; exact ⟨fun _ => ⟨by omega, h2⟩, fun _ => rfl⟩
    · rw [if_neg h2]
      refine ⟨fun h => ?_, fun h => absurd h.2 h2⟩
      split at h <;> omega
theorem sKd_1 {B : Nat → Int} {N p : Nat} : sKd B N p = 1 ↔ p < N ∧ fDi (B p) = true := by
  unfold sKd
  by_cases h1 : N ≤ p
  · rw [if_pos h1]; exact ⟨fun h => by omega, fun h => by omega⟩
  · rw [if_neg h1]
    by_cases h2 : fLe (B p) = true
    · rw [if_pos h2]
      have h3 := fLe_t.mp h2
      exact ⟨fun h => by omega, fun h => by have h4 := fDi_t.mp h.2; omega⟩
    · rw [if_neg h2]
      by_cases h3 : fDi (B p) = true
      · rw [if_pos h3]; exact ⟨fun _ => ⟨by omega, h3⟩, fun _ => rfl⟩
      · rw [if_neg h3]; exact ⟨fun h => by omega, fun h => absurd h.2 h3⟩
theorem sKd_2 {B : Nat → Int} {N p : Nat} {c : Int} (hc : c = 59 ∨ c = 45) (h1 : p < N) (h2 : B p = c) : sKd B N p = 2 := by
  unfold sKd
  rw [if_neg (by omega), if_neg (fun z => by have := fLe_t.mp z; omega), if_neg (fun z => by have := fDi_t.mp z; omega)]
theorem sKd_3 {B : Nat → Int} {N p : Nat} (h : p ≤ N) : sKd B N p = 3 ↔ p = N := by
  unfold sKd
  by_cases h1 : N ≤ p
  · rw [if_pos h1]; exact ⟨fun _ => by omega, fun _ => rfl⟩
  · rw [if_neg h1]
    refine ⟨fun h => ?_, fun h => by omega⟩
    (repeat' split at h) <;> omega
theorem sEd_w {B : Nat → Int} {N p : Nat} (h : sKd B N p = 0) : sEd B N p = sWe B N p := by
  have h1 := sKd_0.mp h
  unfold sEd
  rw [if_neg (by omega), if_pos h1.2]
theorem sEd_d {B : Nat → Int} {N p : Nat} (h : sKd B N p = 1) : sEd B N p = sDe B N p ∧ sNb B N p = sNv B N p := by
  have h1 := sKd_1.mp h
  have h2 := fDi_t.mp h1.2
  unfold sEd sNb
  rw [if_neg (by omega), if_neg (fun z => by have := fLe_t.mp z; omega), if_pos h1.2, if_pos h1]
  exact ⟨rfl, rfl⟩
theorem sEd_s {B : Nat → Int} {N p : Nat} {c : Int} (hc : c = 59 ∨ c = 45) (h1 : p < N) (h2 : B p = c) : sEd B N p = p + 1 := by
  unfold sEd
  rw [if_neg (by omega), if_neg (fun z => by have := fLe_t.mp z; omega), if_neg (fun z => by have := fDi_t.mp z; omega)]
theorem sW_kd {B : Nat → Int} {N p : Nat} {w : List Int} (hw : 0 < w.length) (h : sW B N p w = true) : sKd B N p = 0 := by
  have h1 := (sW_iff.mp h).1
  refine sKd_0.mpr (Classical.byContradiction fun z => ?_)
  have h2 : sWe B N p = p := sRun_n z
  omega
theorem sDe_eq {B : Nat → Int} {N p : Nat} (hp : p ≤ N) : sDe B N p = p ↔ ¬ (p < N ∧ fDi (B p) = true) := by
  constructor
  · intro h z
    have h1 := sRun_y (f := fDi) z.1 z.2
    have h2 := (sRun_rng (f := fDi) (B := B) (N := N) (N - (p + 1)) (p + 1) (by omega)).1
    have h3 : sDe B N p = sRun fDi B N (N - p) p := rfl
    omega
  · exact fun h => sRun_n h
theorem sNb_rng {B : Nat → Int} {N : Nat} (hB : ∀ k : Nat, k < N → 1 ≤ B k ∧ B k ≤ 255) : ∀ n i : Nat, ∀ v : Int, 0 ≤ v → v ≤ 1000 → 0 ≤ sVal B N n i v ∧ sVal B N n i v ≤ 1000 := by
  intro n
  induction n with
  | zero => intro i v h0 h1; exact ⟨h0, h1⟩
  | succ n ih =>
    intro i v h0 h1
    unfold sVal
    by_cases z : i < N ∧ fDi (B i) = true
    · rw [if_pos z]
      have := fDi_t.mp z.2
      exact ih _ _ (by split <;> omega) (by split <;> omega)
    · rw [if_neg z]; exact ⟨h0, h1⟩
theorem dX7_isWord_0 : decode cX7_isWord 0 = .ok (.aload_n 0, 1) := by decide +kernel
theorem dX7_isWord_1 : decode cX7_isWord 1 = .ok (.getfield 113, 3) := by decide +kernel
theorem dX7_isWord_4 : decode cX7_isWord 4 = .ok (.ifCond .ne 26, 3) := by decide +kernel
theorem dX7_isWord_7 : decode cX7_isWord 7 = .ok (.aload_n 0, 1) := by decide +kernel
theorem dX7_isWord_8 : decode cX7_isWord 8 = .ok (.getfield 97, 3) := by decide +kernel
theorem dX7_isWord_11 : decode cX7_isWord 11 = .ok (.ifCond .ne 19, 3) := by decide +kernel
theorem dX7_isWord_14 : decode cX7_isWord 14 = .ok (.aload_n 0, 1) := by decide +kernel
theorem dX7_isWord_15 : decode cX7_isWord 15 = .ok (.getfield 88, 3) := by decide +kernel
theorem dX7_isWord_18 : decode cX7_isWord 18 = .ok (.aload_n 0, 1) := by decide +kernel
theorem dX7_isWord_19 : decode cX7_isWord 19 = .ok (.getfield 91, 3) := by decide +kernel
theorem dX7_isWord_22 : decode cX7_isWord 22 = .ok (.isub, 1) := by decide +kernel
theorem dX7_isWord_23 : decode cX7_isWord 23 = .ok (.aload_n 1, 1) := by decide +kernel
theorem dX7_isWord_24 : decode cX7_isWord 24 = .ok (.invokevirtual 116, 3) := by decide +kernel
theorem dX7_isWord_27 : decode cX7_isWord 27 = .ok (.if_icmp .eq 5, 3) := by decide +kernel
theorem dX7_isWord_30 : decode cX7_isWord 30 = .ok (.iconst 0, 1) := by decide +kernel
theorem dX7_isWord_31 : decode cX7_isWord 31 = .ok (.ireturn, 1) := by decide +kernel
theorem dX7_isWord_32 : decode cX7_isWord 32 = .ok (.iconst 0, 1) := by decide +kernel
theorem dX7_isWord_33 : decode cX7_isWord 33 = .ok (.istore_n 2, 1) := by decide +kernel
theorem dX7_isWord_34 : decode cX7_isWord 34 = .ok (.iload_n 2, 1) := by decide +kernel
theorem dX7_isWord_35 : decode cX7_isWord 35 = .ok (.aload_n 1, 1) := by decide +kernel
theorem dX7_isWord_36 : decode cX7_isWord 36 = .ok (.invokevirtual 116, 3) := by decide +kernel
theorem dX7_isWord_39 : decode cX7_isWord 39 = .ok (.if_icmp .ge 30, 3) := by decide +kernel
theorem dX7_isWord_42 : decode cX7_isWord 42 = .ok (.aload_n 0, 1) := by decide +kernel
theorem dX7_isWord_43 : decode cX7_isWord 43 = .ok (.getfield 29, 3) := by decide +kernel
theorem dX7_isWord_46 : decode cX7_isWord 46 = .ok (.aload_n 0, 1) := by decide +kernel
theorem dX7_isWord_47 : decode cX7_isWord 47 = .ok (.getfield 91, 3) := by decide +kernel
theorem dX7_isWord_50 : decode cX7_isWord 50 = .ok (.iload_n 2, 1) := by decide +kernel
theorem dX7_isWord_51 : decode cX7_isWord 51 = .ok (.iadd, 1) := by decide +kernel
theorem dX7_isWord_52 : decode cX7_isWord 52 = .ok (.iaload, 1) := by decide +kernel
theorem dX7_isWord_53 : decode cX7_isWord 53 = .ok (.aload_n 1, 1) := by decide +kernel
theorem dX7_isWord_54 : decode cX7_isWord 54 = .ok (.iload_n 2, 1) := by decide +kernel
theorem dX7_isWord_55 : decode cX7_isWord 55 = .ok (.invokevirtual 122, 3) := by decide +kernel
theorem dX7_isWord_58 : decode cX7_isWord 58 = .ok (.if_icmp .eq 5, 3) := by decide +kernel
theorem dX7_isWord_61 : decode cX7_isWord 61 = .ok (.iconst 0, 1) := by decide +kernel
theorem dX7_isWord_62 : decode cX7_isWord 62 = .ok (.ireturn, 1) := by decide +kernel
theorem dX7_isWord_63 : decode cX7_isWord 63 = .ok (.iinc 2 1, 3) := by decide +kernel
theorem dX7_isWord_66 : decode cX7_isWord 66 = .ok (.goto (-32), 3) := by decide +kernel
theorem dX7_isWord_69 : decode cX7_isWord 69 = .ok (.iconst 1, 1) := by decide +kernel
theorem dX7_isWord_70 : decode cX7_isWord 70 = .ok (.ireturn, 1) := by decide +kernel
theorem eX7_isWordG {W : zWd} {B : Nat → Int} {N p : Nat} {d : Int} {a : Int → Int} {i : Nat} {q : String × Nat × String × List Int} {Q : Option Value → zWd → Prop} {X : zX} (h : zMR W B N d (.inr (p, a))) (hs : zStrs[i]? = some q) (hw : zWo q) (hne : 0 < q.2.2.2.length) (hq : Q (some (zI (if sW B N p q.2.2.2 = true then 1 else 0))) W) : Ev MX7_isWord 4 0 W [.ref 116, .ref (1000 + i)] Q X := by
  refine ev_of (ls := [.ref 116, .ref (1000 + i), .null]) (by decide) rfl (fun _ => rfl) (fun _ => Nat.le_of_ble_eq_true rfl) (Or.inl rfl) ?_
  have h : zGd W B N p ∧ zRw W d a ∧ zPs a := h
  obtain ⟨⟨hT, hM, h14⟩, hRw, hPf⟩ := h
  obtain ⟨m10, mpN, m11, m12, m13⟩ := id hM
  have h600 := hT.2.1
  have hed := sEd_rng (B := B) mpN
  have hkd := @sKd_rng B N p
  have hwl := hw.1
  have hwr : p ≤ sWe B N p ∧ sWe B N p ≤ N := sRun_rng _ _ mpN
  have loop : sWe B N p - p = q.2.2.2.length → ∀ (n : Nat) (k : Nat), k ≤ q.2.2.2.length → (∀ j : Nat, j < k → B (p + j) = q.2.2.2.getD j 0) → q.2.2.2.length - k < n → RR MX7_isWord 4 0 W 34 [.ref 116, .ref (1000 + i), zI (k : Int)] [] (zEnd MX7_isWord Q X) X := by
    intro hL n
    induction n with
    | zero => intro k _ _ hm9; omega
    | succ n ih =>
      intro k h2 hA hm9
      refine rr_iload_n (pc := 34) dX7_isWord_34 rfl ?_
      refine rr_aload_n (pc := 35) dX7_isWord_35 rfl ?_
      refine rr_invS (M' := MJ0_length_8abf5) (As := []) (pc := 36) hs dX7_isWord_36 lX7_116 kJ0_length_8abf5 vJ0_length_8abf5 rfl (by decide) (by decide) (Nat.le_of_ble_eq_true rfl) rfl (eJ0_length_8abf5 hs hw.1 ?_)
      refine rr_icmp_ge (pc := 39) (tgt := 69) dX7_isWord_39 (by decide) (by unfold zR; omega) (by unfold zR; omega) (fun h39 => ?_) (fun h39 => ?_)
      · refine rr_iconst (n := 1) dX7_isWord_69 ?_
        exact rr_reti (pc := 70) dX7_isWord_70 rfl rfl (by rw [if_pos (sW_iff.mpr ⟨by omega, fun j hj => hA j (by omega)⟩)]) rfl (hq)
      · refine rr_aload_n (pc := 42) dX7_isWord_42 rfl ?_
        refine rr_getR (pc := 43) dX7_isWord_43 fX7_29 zk_116 zr_116_8 ?_
        refine rr_aload_n (pc := 46) dX7_isWord_46 rfl ?_
        refine rr_getI (pc := 47) (ji := 10) dX7_isWord_47 fX7_91 zk_116 zr_116_10 rfl ?_
        rw [m10]
        refine rr_iload_n (pc := 50) dX7_isWord_50 rfl ?_
        refine rr_iadd (pc := 51) dX7_isWord_51 ?_
        have hb := hT.2.2 (p + k) (by omega)
        refine rr_iald (pc := 52) dX7_isWord_52 zk_123 (by omega) (by omega) ?_
        rw [show (p : Int) + (k : Int) = ((p + k : Nat) : Int) by omega, hb.2.2]
        have hwk := hw.2 k (by omega)
        refine rr_aload_n (pc := 53) dX7_isWord_53 rfl ?_
        refine rr_iload_n (pc := 54) dX7_isWord_54 rfl ?_
        refine rr_invS (M' := MJ0_charAt_5068e) (As := [_]) (pc := 55) hs dX7_isWord_55 lX7_122 kJ0_charAt_5068e vJ0_charAt_5068e rfl (by decide) (by decide) (Nat.le_of_ble_eq_true rfl) rfl (eJ0_charAt_5068e hs hw.1 (by omega) (by omega) hwk.1 hwk.2 ?_)
        rw [Int.toNat_natCast]
        refine rr_icmp_eq (pc := 58) (tgt := 63) dX7_isWord_58 (by decide) (by unfold zR; omega) (by unfold zR; omega) (fun h58 => ?_) (fun h58 => ?_)
        · refine rr_iinc (pc := 63) dX7_isWord_63 rfl (by decide) ?_
          refine rr_goto (pc := 66) (tgt := 34) dX7_isWord_66 (by decide) ?_
          refine ih (k + 1) (by omega) (fun j g => ?_) (by omega)
          by_cases z : j = k
          · subst z; exact h58
          · exact hA j (by omega)
        · refine rr_iconst (n := 0) dX7_isWord_61 ?_
          exact rr_reti (pc := 62) dX7_isWord_62 rfl rfl (by rw [if_neg (fun z => h58 ((sW_iff.mp z).2 k (by omega)))]) rfl (hq)
  refine rr_aload_n (pc := 0) dX7_isWord_0 rfl ?_
  refine rr_getI (pc := 1) (ji := 14) dX7_isWord_1 fX7_113 zk_116 zr_116_14 rfl ?_
  rw [h14]
  refine rr_if_ne (pc := 4) (tgt := 30) dX7_isWord_4 (by decide) (by unfold zR; omega) (fun h4 => ?_) (fun h4 => ?_)
  · exact absurd rfl h4
  · refine rr_aload_n (pc := 7) dX7_isWord_7 rfl ?_
    refine rr_getI (pc := 8) (ji := 12) dX7_isWord_8 fX7_97 zk_116 zr_116_12 rfl ?_
    rw [m12]
    refine rr_if_ne (pc := 11) (tgt := 30) dX7_isWord_11 (by decide) (by unfold zR; omega) (fun h11 => ?_) (fun h11 => ?_)
    · refine rr_iconst (n := 0) dX7_isWord_30 ?_
      exact rr_reti (pc := 31) dX7_isWord_31 rfl rfl (by rw [if_neg (fun z => h11 (sW_kd hne z))]) rfl (hq)
    · refine rr_aload_n (pc := 14) dX7_isWord_14 rfl ?_
      have hwe := sEd_w (by omega : sKd B N p = 0)
      refine rr_getI (pc := 15) (ji := 11) dX7_isWord_15 fX7_88 zk_116 zr_116_11 rfl ?_
      rw [m11, hwe]
      refine rr_aload_n (pc := 18) dX7_isWord_18 rfl ?_
      refine rr_getI (pc := 19) (ji := 10) dX7_isWord_19 fX7_91 zk_116 zr_116_10 rfl ?_
      rw [m10]
      refine rr_isub (pc := 22) dX7_isWord_22 ?_
      refine rr_aload_n (pc := 23) dX7_isWord_23 rfl ?_
      refine rr_invS (M' := MJ0_length_8abf5) (As := []) (pc := 24) hs dX7_isWord_24 lX7_116 kJ0_length_8abf5 vJ0_length_8abf5 rfl (by decide) (by decide) (Nat.le_of_ble_eq_true rfl) rfl (eJ0_length_8abf5 hs hw.1 ?_)
      refine rr_icmp_eq (pc := 27) (tgt := 32) dX7_isWord_27 (by decide) (by unfold zR; omega) (by unfold zR; omega) (fun h27 => ?_) (fun h27 => ?_)
      · refine rr_iconst (n := 0) dX7_isWord_32 ?_
        refine rr_istore_n (pc := 33) dX7_isWord_33 (by decide) ?_
        exact loop (by omega) _ 0 (Nat.zero_le _) (fun j g => by omega) (Nat.lt_succ_self _)
      · refine rr_iconst (n := 0) dX7_isWord_30 ?_
        exact rr_reti (pc := 31) dX7_isWord_31 rfl rfl (by rw [if_neg (fun z => by have := (sW_iff.mp z).1; omega)]) rfl (hq)
theorem eX7_isWordB {W : zWd} {d c : Int} {p : Nat} {i : Nat} {Q : Option Value → zWd → Prop} {X : zX} (h : zBd W d c p) (hq : Q (some (zI 0)) W) : Ev MX7_isWord 4 0 W [.ref 116, .ref (1000 + i)] Q X := by
  refine ev_of (ls := [.ref 116, .ref (1000 + i), .null]) (by decide) rfl (fun _ => rfl) (fun _ => Nat.le_of_ble_eq_true rfl) (Or.inl rfl) ?_

  refine rr_aload_n (pc := 0) dX7_isWord_0 rfl ?_
  refine rr_getI (pc := 1) (ji := 14) dX7_isWord_1 fX7_113 zk_116 zr_116_14 rfl ?_
  rw [h.1]
  refine rr_if_ne (pc := 4) (tgt := 30) dX7_isWord_4 (by decide) (by have := h.2.1; have := h.2.2.1; unfold zR; omega) (fun h4 => ?_) (fun h4 => ?_)
  · refine rr_iconst (n := 0) dX7_isWord_30 ?_
    exact rr_reti (pc := 31) dX7_isWord_31 rfl rfl rfl rfl (hq)
  · exact absurd h4 (by have := h.2.2.1; omega)
theorem eX7_isWord {W : zWd} {B : Nat → Int} {N : Nat} {d : Int} {r : zRs} {i : Nat} {q : String × Nat × String × List Int} {Q : Option Value → zWd → Prop} {X : zX} (h : zMR W B N d r) (hs : zStrs[i]? = some q) (hw : zWo q) (hne : 0 < q.2.2.2.length) (hq : Q (some (zI (if sWr B N q.2.2.2 r = true then 1 else 0))) W) : Ev MX7_isWord 4 0 W [.ref 116, .ref (1000 + i)] Q X := by
  cases r with
  | inl e => exact eX7_isWordB h hq
  | inr g => exact eX7_isWordG (p := g.1) (a := g.2) h hs hw hne hq
theorem dX7_isSign_0 : decode cX7_isSign 0 = .ok (.aload_n 0, 1) := by decide +kernel
theorem dX7_isSign_1 : decode cX7_isSign 1 = .ok (.getfield 113, 3) := by decide +kernel
theorem dX7_isSign_4 : decode cX7_isSign 4 = .ok (.ifCond .ne 27, 3) := by decide +kernel
theorem dX7_isSign_7 : decode cX7_isSign 7 = .ok (.aload_n 0, 1) := by decide +kernel
theorem dX7_isSign_8 : decode cX7_isSign 8 = .ok (.getfield 97, 3) := by decide +kernel
theorem dX7_isSign_11 : decode cX7_isSign 11 = .ok (.iconst 2, 1) := by decide +kernel
theorem dX7_isSign_12 : decode cX7_isSign 12 = .ok (.if_icmp .ne 19, 3) := by decide +kernel
theorem dX7_isSign_15 : decode cX7_isSign 15 = .ok (.aload_n 0, 1) := by decide +kernel
theorem dX7_isSign_16 : decode cX7_isSign 16 = .ok (.aload_n 0, 1) := by decide +kernel
theorem dX7_isSign_17 : decode cX7_isSign 17 = .ok (.getfield 91, 3) := by decide +kernel
theorem dX7_isSign_20 : decode cX7_isSign 20 = .ok (.invokevirtual 84, 3) := by decide +kernel
theorem dX7_isSign_23 : decode cX7_isSign 23 = .ok (.iload_n 1, 1) := by decide +kernel
theorem dX7_isSign_24 : decode cX7_isSign 24 = .ok (.if_icmp .ne 7, 3) := by decide +kernel
theorem dX7_isSign_27 : decode cX7_isSign 27 = .ok (.iconst 1, 1) := by decide +kernel
theorem dX7_isSign_28 : decode cX7_isSign 28 = .ok (.goto 4, 3) := by decide +kernel
theorem dX7_isSign_31 : decode cX7_isSign 31 = .ok (.iconst 0, 1) := by decide +kernel
theorem dX7_isSign_32 : decode cX7_isSign 32 = .ok (.ireturn, 1) := by decide +kernel
theorem eX7_isSignG {W : zWd} {B : Nat → Int} {N p : Nat} {d c : Int} {a : Int → Int} {Q : Option Value → zWd → Prop} {X : zX} (h : zMR W B N d (.inr (p, a))) (hc : c = 59 ∨ c = 45) (hq : Q (some (zI (if sGr B N c (.inr (p, a)) = true then 1 else 0))) W) : Ev MX7_isSign 1 0 W [.ref 116, zI c] Q X := by
  refine ev_of (ls := [.ref 116, zI c]) (by decide) rfl (fun _ => rfl) (fun _ => Nat.le_of_ble_eq_true rfl) (Or.inl rfl) ?_
  have h : zGd W B N p ∧ zRw W d a ∧ zPs a := h
  obtain ⟨⟨hT, hM, h14⟩, hRw, hPf⟩ := h
  obtain ⟨m10, mpN, m11, m12, m13⟩ := id hM
  have h600 := hT.2.1
  have hed := sEd_rng (B := B) mpN
  have hkd := @sKd_rng B N p
  refine rr_aload_n (pc := 0) dX7_isSign_0 rfl ?_
  refine rr_getI (pc := 1) (ji := 14) dX7_isSign_1 fX7_113 zk_116 zr_116_14 rfl ?_
  rw [h14]
  refine rr_if_ne (pc := 4) (tgt := 31) dX7_isSign_4 (by decide) (by unfold zR; omega) (fun h4 => ?_) (fun h4 => ?_)
  · exact absurd rfl h4
  · refine rr_aload_n (pc := 7) dX7_isSign_7 rfl ?_
    refine rr_getI (pc := 8) (ji := 12) dX7_isSign_8 fX7_97 zk_116 zr_116_12 rfl ?_
    rw [m12]
    refine rr_iconst (n := 2) dX7_isSign_11 ?_
    refine rr_icmp_ne (pc := 12) (tgt := 31) dX7_isSign_12 (by decide) (by unfold zR; omega) (by unfold zR; omega) (fun h12 => ?_) (fun h12 => ?_)
    · refine rr_iconst (n := 0) dX7_isSign_31 ?_
      exact rr_reti (pc := 32) dX7_isSign_32 rfl rfl (if_neg (fun z => by have z := of_decide_eq_true z; exact h12 (sKd_2 hc z.1 z.2))).symm rfl (hq)
    · refine rr_aload_n (pc := 15) dX7_isSign_15 rfl ?_
      refine rr_aload_n (pc := 16) dX7_isSign_16 rfl ?_
      refine rr_getI (pc := 17) (ji := 10) dX7_isSign_17 fX7_91 zk_116 zr_116_10 rfl ?_
      rw [m10]
      refine rr_inv0 (M' := MX7_see) (k := 116) (As := [_]) (pc := 20) dX7_isSign_20 lX7_84 kX7_see vX7_see zk_116 (by decide) rfl (by decide) (by decide) (Nat.le_of_ble_eq_true rfl) rfl (eX7_see hT (by omega) ?_)
      have hsr : -1 ≤ (if p < N then B p else -1) ∧ (if p < N then B p else -1) ≤ 255 := by
        split
        · rename_i g; have := hT.2.2 p g; omega
        · omega
      refine rr_iload_n (pc := 23) dX7_isSign_23 rfl ?_
      refine rr_icmp_ne (pc := 24) (tgt := 31) dX7_isSign_24 (by decide) (by unfold zR; omega) (by unfold zR; omega) (fun h24 => ?_) (fun h24 => ?_)
      · refine rr_iconst (n := 0) dX7_isSign_31 ?_
        exact rr_reti (pc := 32) dX7_isSign_32 rfl rfl (if_neg (fun z => by have z := of_decide_eq_true z; rw [if_pos z.1] at h24; exact h24 z.2)).symm rfl (hq)
      · refine rr_iconst (n := 1) dX7_isSign_27 ?_
        refine rr_goto (pc := 28) (tgt := 32) dX7_isSign_28 (by decide) ?_
        exact rr_reti (pc := 32) dX7_isSign_32 rfl rfl (if_pos (decide_eq_true (by by_cases g : p < N; rw [if_pos g] at h24; exact ⟨g, h24⟩; rw [if_neg g] at h24; omega))).symm rfl (hq)
theorem eX7_isSignB {W : zWd} {d c c2 : Int} {p : Nat} {Q : Option Value → zWd → Prop} {X : zX} (h : zBd W d c2 p) (hq : Q (some (zI 0)) W) : Ev MX7_isSign 1 0 W [.ref 116, zI c] Q X := by
  refine ev_of (ls := [.ref 116, zI c]) (by decide) rfl (fun _ => rfl) (fun _ => Nat.le_of_ble_eq_true rfl) (Or.inl rfl) ?_

  refine rr_aload_n (pc := 0) dX7_isSign_0 rfl ?_
  refine rr_getI (pc := 1) (ji := 14) dX7_isSign_1 fX7_113 zk_116 zr_116_14 rfl ?_
  rw [h.1]
  refine rr_if_ne (pc := 4) (tgt := 31) dX7_isSign_4 (by decide) (by have := h.2.1; have := h.2.2.1; unfold zR; omega) (fun h4 => ?_) (fun h4 => ?_)
  · refine rr_iconst (n := 0) dX7_isSign_31 ?_
    exact rr_reti (pc := 32) dX7_isSign_32 rfl rfl rfl rfl (hq)
  · exact absurd h4 (by have := h.2.2.1; omega)
theorem eX7_isSign {W : zWd} {B : Nat → Int} {N : Nat} {d : Int} {r : zRs} {c : Int} {Q : Option Value → zWd → Prop} {X : zX} (h : zMR W B N d r) (hc : c = 59 ∨ c = 45) (hq : Q (some (zI (if sGr B N c r = true then 1 else 0))) W) : Ev MX7_isSign 1 0 W [.ref 116, zI c] Q X := by
  cases r with
  | inl e => exact eX7_isSignB h hq
  | inr g => exact eX7_isSignG (p := g.1) (a := g.2) h hc hq
def zOfr3 (W W' : zWd) : Prop := (∀ k : Nat, k ≠ 116 → W' k = W k) ∧ ∀ j : Int, (j < 14 ∨ 15 < j) → W' 116 j = W 116 j
theorem zOfr3.R {W W' : zWd} (h : zOfr3 W W') : zOfR W W' := ⟨fun k g1 _ => h.1 k g1, fun j g => h.2 j (by omega)⟩
theorem dX7_fails_0 : decode cX7_fails 0 = .ok (.aload_n 0, 1) := by decide +kernel
theorem dX7_fails_1 : decode cX7_fails 1 = .ok (.getfield 113, 3) := by decide +kernel
theorem dX7_fails_4 : decode cX7_fails 4 = .ok (.ifCond .eq 4, 3) := by decide +kernel
theorem dX7_fails_7 : decode cX7_fails 7 = .ok (.return_, 1) := by decide +kernel
theorem dX7_fails_8 : decode cX7_fails 8 = .ok (.aload_n 0, 1) := by decide +kernel
theorem dX7_fails_9 : decode cX7_fails 9 = .ok (.iload_n 1, 1) := by decide +kernel
theorem dX7_fails_10 : decode cX7_fails 10 = .ok (.putfield 113, 3) := by decide +kernel
theorem dX7_fails_13 : decode cX7_fails 13 = .ok (.aload_n 0, 1) := by decide +kernel
theorem dX7_fails_14 : decode cX7_fails 14 = .ok (.aload_n 0, 1) := by decide +kernel
theorem dX7_fails_15 : decode cX7_fails 15 = .ok (.getfield 91, 3) := by decide +kernel
theorem dX7_fails_18 : decode cX7_fails 18 = .ok (.putfield 126, 3) := by decide +kernel
theorem dX7_fails_21 : decode cX7_fails 21 = .ok (.return_, 1) := by decide +kernel
theorem eX7_fails {W : zWd} {c : Int}  {Q : Option Value → zWd → Prop} {X : zX} (h14 : W 116 14 = 0) (hq : ∀ W' : zWd, zOfr3 W W' → W' 116 14 = c → W' 116 15 = W 116 10 → Q none W') : Ev MX7_fails 0 0 W [.ref 116, zI c] Q X := by
  refine ev_of (ls := [.ref 116, zI c]) (by decide) rfl (fun _ => rfl) (fun _ => Nat.le_of_ble_eq_true rfl) (Or.inl rfl) ?_
  refine rr_aload_n (pc := 0) dX7_fails_0 rfl ?_
  refine rr_getI (pc := 1) (ji := 14) dX7_fails_1 fX7_113 zk_116 zr_116_14 rfl ?_
  rw [h14]
  refine rr_if_eq (pc := 4) (tgt := 8) dX7_fails_4 (by decide) (by unfold zR; omega) (fun h4 => ?_) (fun h4 => ?_)
  · refine rr_aload_n (pc := 8) dX7_fails_8 rfl ?_
    refine rr_iload_n (pc := 9) dX7_fails_9 rfl ?_
    refine rr_put (pc := 10) (ji := 14) dX7_fails_10 fX7_113 fp_7_14 zk_116 zr_116_14 rfl ?_
    refine rr_aload_n (pc := 13) dX7_fails_13 rfl ?_
    refine rr_aload_n (pc := 14) dX7_fails_14 rfl ?_
    refine rr_getI (pc := 15) (ji := 10) dX7_fails_15 fX7_91 zk_116 zr_116_10 rfl ?_
    rw [zup_i (show (10 : Int) ≠ 14 by decide)]
    refine rr_put (pc := 18) (ji := 15) dX7_fails_18 fX7_126 fp_7_15 zk_116 zr_116_15 rfl ?_
    exact rr_retv (pc := 21) dX7_fails_21 rfl rfl (hq _ ⟨fun k g => by rw [zup_other k g, zup_other k g], fun j g => by rw [zup_i (by omega), zup_i (by omega)]⟩ (by rw [zup_i (by decide), zup_s]) zup_s)
  · exact absurd rfl h4
theorem eX7_failsB {W : zWd} {d c c2 : Int} {p : Nat} {Q : Option Value → zWd → Prop} {X : zX} (h : zBd W d c2 p) (hq : Q none W) : Ev MX7_fails 0 0 W [.ref 116, zI c] Q X := by
  refine ev_of (ls := [.ref 116, zI c]) (by decide) rfl (fun _ => rfl) (fun _ => Nat.le_of_ble_eq_true rfl) (Or.inl rfl) ?_

  refine rr_aload_n (pc := 0) dX7_fails_0 rfl ?_
  refine rr_getI (pc := 1) (ji := 14) dX7_fails_1 fX7_113 zk_116 zr_116_14 rfl ?_
  rw [h.1]
  refine rr_if_eq (pc := 4) (tgt := 8) dX7_fails_4 (by decide) (by have := h.2.1; have := h.2.2.1; unfold zR; omega) (fun h4 => ?_) (fun h4 => ?_)
  · exact absurd h4 (by have := h.2.2.1; omega)
  · exact rr_retv (pc := 7) dX7_fails_7 rfl rfl (hq)
theorem eX7_failsG {W : zWd} {B : Nat → Int} {N p : Nat} {d c : Int} {a : Int → Int} {Q : Option Value → zWd → Prop} {X : zX} (h : zMR W B N d (.inr (p, a))) (hc : -5 ≤ c) (hc2 : c ≤ -2) (hq : ∀ W' : zWd, zOfr3 W W' → zMR W' B N d (.inl (c, p)) → Q none W') : Ev MX7_fails 0 0 W [.ref 116, zI c] Q X := by
  obtain ⟨⟨hT, hM, h14⟩, hRw, hPf⟩ := h
  have h600 := hT.2.1
  have hp := hM.2.1
  refine eX7_fails h14 (fun W' o e1 e2 => hq W' o ⟨e1, hc, hc2, e2.trans hM.1, by omega, ?_, ?_⟩)
  · rw [o.1 117 (by decide)]; exact hRw.2.2.1
  · rw [o.1 117 (by decide)]; have := hRw.2.1; have := hPf.1.2.2.2.2.2.1; omega
theorem zMR.nx {W W' : zWd} {B : Nat → Int} {N p p' : Nat} {d : Int} {a : Int → Int} (h : zMR W B N d (.inr (p, a))) (o : zOfr2 W W') (hT : zMT W' B N) (hM : zMk W' B N p') : zMR W' B N d (.inr (p', a)) := by
  refine ⟨⟨hT, hM, (o.2 14 (by omega)).trans h.1.2.2⟩, ?_, h.2.2⟩
  have e := o.1 117 (by decide)
  have h2 := h.2.1
  unfold zRw at *
  rw [e]; exact h2
theorem eX7_nextG {W : zWd} {B : Nat → Int} {N p : Nat} {d : Int} {a : Int → Int} {Q : Option Value → zWd → Prop} {X : zX} (h : zMR W B N d (.inr (p, a))) (hq : ∀ W' : zWd, zOfr2 W W' → zMR W' B N d (.inr (sSk B N (sEd B N p), a)) → Q none W') : Ev MX7_next 2 0 W [.ref 116] Q X :=
  eX7_next h.1.1 h.1.2.1.2.2.1 (sEd_rng h.1.2.1.2.1).2 (fun W' o hT hM => hq W' o (h.nx o hT hM))
/-- behind 'must' -/
def sMst (B : Nat → Int) (N : Nat) (b : Bool) : zRs → zRs
  | .inl e => .inl e
  | .inr g => if b = true then .inr (sSk B N (sEd B N g.1), g.2) else .inl (-2, g.1)
theorem dX7_must_0 : decode cX7_must 0 = .ok (.iload_n 1, 1) := by decide +kernel
theorem dX7_must_1 : decode cX7_must 1 = .ok (.ifCond .ne 9, 3) := by decide +kernel
theorem dX7_must_4 : decode cX7_must 4 = .ok (.aload_n 0, 1) := by decide +kernel
theorem dX7_must_5 : decode cX7_must 5 = .ok (.bipush (-2), 2) := by decide +kernel
theorem dX7_must_7 : decode cX7_must 7 = .ok (.invokevirtual 129, 3) := by decide +kernel
theorem dX7_must_10 : decode cX7_must 10 = .ok (.aload_n 0, 1) := by decide +kernel
theorem dX7_must_11 : decode cX7_must 11 = .ok (.getfield 113, 3) := by decide +kernel
theorem dX7_must_14 : decode cX7_must 14 = .ok (.ifCond .ne 7, 3) := by decide +kernel
theorem dX7_must_17 : decode cX7_must 17 = .ok (.aload_n 0, 1) := by decide +kernel
theorem dX7_must_18 : decode cX7_must 18 = .ok (.invokevirtual 132, 3) := by decide +kernel
theorem dX7_must_21 : decode cX7_must 21 = .ok (.return_, 1) := by decide +kernel
theorem eX7_mustB {W : zWd} {d c v : Int} {p : Nat} {Q : Option Value → zWd → Prop} {X : zX} (h : zBd W d c p) (hv : zR v) (hq : Q none W) : Ev MX7_must 3 0 W [.ref 116, zI v] Q X := by
  refine ev_of (ls := [.ref 116, zI v]) (by decide) rfl (fun _ => rfl) (fun _ => Nat.le_of_ble_eq_true rfl) (Or.inl rfl) ?_

  refine rr_iload_n (pc := 0) dX7_must_0 rfl ?_
  refine rr_if_ne (pc := 1) (tgt := 10) dX7_must_1 (by decide) hv (fun h1 => ?_) (fun h1 => ?_)
  · refine rr_aload_n (pc := 10) dX7_must_10 rfl ?_
    refine rr_getI (pc := 11) (ji := 14) dX7_must_11 fX7_113 zk_116 zr_116_14 rfl ?_
    rw [h.1]
    refine rr_if_ne (pc := 14) (tgt := 21) dX7_must_14 (by decide) (by have := h.2.1; have := h.2.2.1; unfold zR; omega) (fun h14 => ?_) (fun h14 => ?_)
    · exact rr_retv (pc := 21) dX7_must_21 rfl rfl (hq)
    · exact absurd h14 (by have := h.2.2.1; omega)
  · refine rr_aload_n (pc := 4) dX7_must_4 rfl ?_
    refine rr_bipush (n := (-2)) dX7_must_5 ?_
    refine rr_inv0 (M' := MX7_fails) (k := 116) (As := [_]) (pc := 7) dX7_must_7 lX7_129 kX7_fails vX7_fails zk_116 (by decide) rfl (by decide) (by decide) (Nat.le_of_ble_eq_true rfl) rfl (eX7_failsB h ?_)
    refine rr_aload_n (pc := 10) dX7_must_10 rfl ?_
    refine rr_getI (pc := 11) (ji := 14) dX7_must_11 fX7_113 zk_116 zr_116_14 rfl ?_
    rw [h.1]
    refine rr_if_ne (pc := 14) (tgt := 21) dX7_must_14 (by decide) (by have := h.2.1; have := h.2.2.1; unfold zR; omega) (fun h14 => ?_) (fun h14 => ?_)
    · exact rr_retv (pc := 21) dX7_must_21 rfl rfl (hq)
    · exact absurd h14 (by have := h.2.2.1; omega)
theorem eX7_mustG {W : zWd} {B : Nat → Int} {N p : Nat} {d : Int} {a : Int → Int} {b : Bool} {Q : Option Value → zWd → Prop} {X : zX} (h : zMR W B N d (.inr (p, a))) (hq : ∀ W' : zWd, zOfR W W' → zMR W' B N d (sMst B N b (.inr (p, a))) → Q none W') : Ev MX7_must 3 0 W [.ref 116, zI (if b = true then 1 else 0)] Q X := by
  refine ev_of (ls := [.ref 116, zI (if b = true then 1 else 0)]) (by decide) rfl (fun _ => rfl) (fun _ => Nat.le_of_ble_eq_true rfl) (Or.inl rfl) ?_

  refine rr_iload_n (pc := 0) dX7_must_0 rfl ?_
  refine rr_if_ne (pc := 1) (tgt := 10) dX7_must_1 (by decide) (by split <;> (unfold zR; omega)) (fun h1 => ?_) (fun h1 => ?_)
  · refine rr_aload_n (pc := 10) dX7_must_10 rfl ?_
    have hb := z_i10n h1
    refine rr_getI (pc := 11) (ji := 14) dX7_must_11 fX7_113 zk_116 zr_116_14 rfl ?_
    rw [h.1.2.2]
    refine rr_if_ne (pc := 14) (tgt := 21) dX7_must_14 (by decide) (by unfold zR; omega) (fun h14 => ?_) (fun h14 => ?_)
    · exact absurd rfl h14
    · refine rr_aload_n (pc := 17) dX7_must_17 rfl ?_
      refine rr_inv0 (M' := MX7_next) (k := 116) (As := []) (pc := 18) dX7_must_18 lX7_132 kX7_next vX7_next zk_116 (by decide) rfl (by decide) (by decide) (Nat.le_of_ble_eq_true rfl) rfl (eX7_nextG h (fun W1 o1 r1 => ?_))
      exact rr_retv (pc := 21) dX7_must_21 rfl rfl (hq W1 o1.R (by show zMR W1 B N d (if b = true then _ else _); rw [if_pos hb]; exact r1))
  · refine rr_aload_n (pc := 4) dX7_must_4 rfl ?_
    refine rr_bipush (n := (-2)) dX7_must_5 ?_
    have hb := z_i10 h1
    refine rr_inv0 (M' := MX7_fails) (k := 116) (As := [_]) (pc := 7) dX7_must_7 lX7_129 kX7_fails vX7_fails zk_116 (by decide) rfl (by decide) (by decide) (Nat.le_of_ble_eq_true rfl) rfl (eX7_failsG h (by decide) (by decide) (fun W1 o1 r1 => ?_))
    refine rr_aload_n (pc := 10) dX7_must_10 rfl ?_
    refine rr_getI (pc := 11) (ji := 14) dX7_must_11 fX7_113 zk_116 zr_116_14 rfl ?_
    have r9 : W1 116 14 = -2 := r1.1
    rw [r9]
    refine rr_if_ne (pc := 14) (tgt := 21) dX7_must_14 (by decide) (by unfold zR; omega) (fun h14 => ?_) (fun h14 => ?_)
    · exact rr_retv (pc := 21) dX7_must_21 rfl rfl (hq W1 o1.R (by show zMR W1 B N d (if b = true then _ else _); rw [if_neg hb]; exact r1))
    · exact absurd h14 (by decide)
theorem eX7_must {W : zWd} {B : Nat → Int} {N : Nat} {d : Int} {r : zRs} {b : Bool} {Q : Option Value → zWd → Prop} {X : zX} (h : zMR W B N d r) (hq : ∀ W' : zWd, zOfR W W' → zMR W' B N d (sMst B N b r) → Q none W') : Ev MX7_must 3 0 W [.ref 116, zI (if b = true then 1 else 0)] Q X := by
  cases r with
  | inl e => exact eX7_mustB h (by split <;> (unfold zR; omega)) (hq W zOfR.rf h)
  | inr g => exact eX7_mustG (p := g.1) (a := g.2) h hq
theorem dX7_stands_0 : decode cX7_stands 0 = .ok (.aload_n 0, 1) := by decide +kernel
theorem dX7_stands_1 : decode cX7_stands 1 = .ok (.getfield 113, 3) := by decide +kernel
theorem dX7_stands_4 : decode cX7_stands 4 = .ok (.ifCond .ne 17, 3) := by decide +kernel
theorem dX7_stands_7 : decode cX7_stands 7 = .ok (.aload_n 0, 1) := by decide +kernel
theorem dX7_stands_8 : decode cX7_stands 8 = .ok (.getfield 97, 3) := by decide +kernel
theorem dX7_stands_11 : decode cX7_stands 11 = .ok (.iconst 1, 1) := by decide +kernel
theorem dX7_stands_12 : decode cX7_stands 12 = .ok (.if_icmp .eq 9, 3) := by decide +kernel
theorem dX7_stands_15 : decode cX7_stands 15 = .ok (.aload_n 0, 1) := by decide +kernel
theorem dX7_stands_16 : decode cX7_stands 16 = .ok (.bipush (-2), 2) := by decide +kernel
theorem dX7_stands_18 : decode cX7_stands 18 = .ok (.invokevirtual 129, 3) := by decide +kernel
theorem dX7_stands_21 : decode cX7_stands 21 = .ok (.aload_n 0, 1) := by decide +kernel
theorem dX7_stands_22 : decode cX7_stands 22 = .ok (.getfield 113, 3) := by decide +kernel
theorem dX7_stands_25 : decode cX7_stands 25 = .ok (.ifCond .ne 21, 3) := by decide +kernel
theorem dX7_stands_28 : decode cX7_stands 28 = .ok (.aload_n 0, 1) := by decide +kernel
theorem dX7_stands_29 : decode cX7_stands 29 = .ok (.getfield 94, 3) := by decide +kernel
theorem dX7_stands_32 : decode cX7_stands 32 = .ok (.iload_n 1, 1) := by decide +kernel
theorem dX7_stands_33 : decode cX7_stands 33 = .ok (.iload_n 2, 1) := by decide +kernel
theorem dX7_stands_34 : decode cX7_stands 34 = .ok (.invokestatic 69, 3) := by decide +kernel
theorem dX7_stands_37 : decode cX7_stands 37 = .ok (.ifCond .ne 9, 3) := by decide +kernel
theorem dX7_stands_40 : decode cX7_stands 40 = .ok (.aload_n 0, 1) := by decide +kernel
theorem dX7_stands_41 : decode cX7_stands 41 = .ok (.bipush (-3), 2) := by decide +kernel
theorem dX7_stands_43 : decode cX7_stands 43 = .ok (.invokevirtual 129, 3) := by decide +kernel
theorem dX7_stands_46 : decode cX7_stands 46 = .ok (.aload_n 0, 1) := by decide +kernel
theorem dX7_stands_47 : decode cX7_stands 47 = .ok (.getfield 113, 3) := by decide +kernel
theorem dX7_stands_50 : decode cX7_stands 50 = .ok (.ifCond .ne 10, 3) := by decide +kernel
theorem dX7_stands_53 : decode cX7_stands 53 = .ok (.aload_n 0, 1) := by decide +kernel
theorem dX7_stands_54 : decode cX7_stands 54 = .ok (.getfield 94, 3) := by decide +kernel
theorem dX7_stands_57 : decode cX7_stands 57 = .ok (.goto 4, 3) := by decide +kernel
theorem dX7_stands_60 : decode cX7_stands 60 = .ok (.iconst 0, 1) := by decide +kernel
theorem dX7_stands_61 : decode cX7_stands 61 = .ok (.ireturn, 1) := by decide +kernel
theorem eX7_stands {W : zWd} {B : Nat → Int} {N p : Nat} {d lo hi : Int} {a : Int → Int}  {Q : Option Value → zWd → Prop} {X : zX} (h : zMR W B N d (.inr (p, a))) (hlo : zR lo) (hhi : zR hi) (hq0 : ∀ c : Int, sNr B N lo hi p = .inl (c, p) → ∀ W' : zWd, zOfR W W' → zMR W' B N d (.inl (c, p)) → Q (some (zI 0)) W') (hq1 : ∀ (v : Int), sNr B N lo hi p = .inr (sSk B N (sEd B N p), v) → Q (some (zI v)) W) : Ev MX7_stands 1 0 W [.ref 116, zI lo, zI hi] Q X := by
  refine ev_of (ls := [.ref 116, zI lo, zI hi]) (by decide) rfl (fun _ => rfl) (fun _ => Nat.le_of_ble_eq_true rfl) (Or.inl rfl) ?_
  have hG : zGd W B N p ∧ zRw W d a ∧ zPs a := h
  obtain ⟨⟨hT, hM, h14⟩, hRw, hPf⟩ := hG
  obtain ⟨m10, mpN, m11, m12, m13⟩ := id hM
  have h600 := hT.2.1
  have hed := sEd_rng (B := B) mpN
  have hkd := @sKd_rng B N p
  refine rr_aload_n (pc := 0) dX7_stands_0 rfl ?_
  refine rr_getI (pc := 1) (ji := 14) dX7_stands_1 fX7_113 zk_116 zr_116_14 rfl ?_
  rw [h14]
  refine rr_if_ne (pc := 4) (tgt := 21) dX7_stands_4 (by decide) (by unfold zR; omega) (fun h4 => ?_) (fun h4 => ?_)
  · exact absurd rfl h4
  · refine rr_aload_n (pc := 7) dX7_stands_7 rfl ?_
    refine rr_getI (pc := 8) (ji := 12) dX7_stands_8 fX7_97 zk_116 zr_116_12 rfl ?_
    rw [m12]
    refine rr_iconst (n := 1) dX7_stands_11 ?_
    refine rr_icmp_eq (pc := 12) (tgt := 21) dX7_stands_12 (by decide) (by unfold zR; omega) (by unfold zR; omega) (fun h12 => ?_) (fun h12 => ?_)
    · refine rr_aload_n (pc := 21) dX7_stands_21 rfl ?_
      obtain ⟨hed1, hnb⟩ := sEd_d h12
      have hnd : ¬ sDe B N p = p := fun z => (sDe_eq mpN).mp z (sKd_1.mp h12)
      have hvr := sNb_rng (fun k hk => ⟨(hT.2.2 k hk).1, (hT.2.2 k hk).2.1⟩) (N - p) p 0 (by omega) (by omega)
      have hvr : 0 ≤ sNv B N p ∧ sNv B N p ≤ 1000 := hvr
      refine rr_getI (pc := 22) (ji := 14) dX7_stands_22 fX7_113 zk_116 zr_116_14 rfl ?_
      rw [h14]
      refine rr_if_ne (pc := 25) (tgt := 46) dX7_stands_25 (by decide) (by unfold zR; omega) (fun h25 => ?_) (fun h25 => ?_)
      · exact absurd rfl h25
      · refine rr_aload_n (pc := 28) dX7_stands_28 rfl ?_
        refine rr_getI (pc := 29) (ji := 13) dX7_stands_29 fX7_94 zk_116 zr_116_13 rfl ?_
        rw [m13, hnb]
        refine rr_iload_n (pc := 32) dX7_stands_32 rfl ?_
        refine rr_iload_n (pc := 33) dX7_stands_33 rfl ?_
        refine rr_sta0 (M' := MX7_isIn) (As := [_, _, _]) (pc := 34) dX7_stands_34 lX7_69 kX7_isIn sX7_isIn (by decide) (by decide) (Nat.le_of_ble_eq_true rfl) rfl (eX7_isIn (by unfold zR; omega) hlo hhi ?_)
        refine rr_if_ne (pc := 37) (tgt := 46) dX7_stands_37 (by decide) (by split <;> (unfold zR; omega)) (fun h37 => ?_) (fun h37 => ?_)
        · refine rr_aload_n (pc := 46) dX7_stands_46 rfl ?_
          refine rr_getI (pc := 47) (ji := 14) dX7_stands_47 fX7_113 zk_116 zr_116_14 rfl ?_
          rw [h14]
          refine rr_if_ne (pc := 50) (tgt := 60) dX7_stands_50 (by decide) (by unfold zR; omega) (fun h50 => ?_) (fun h50 => ?_)
          · exact absurd rfl h50
          · refine rr_aload_n (pc := 53) dX7_stands_53 rfl ?_
            refine rr_getI (pc := 54) (ji := 13) dX7_stands_54 fX7_94 zk_116 zr_116_13 rfl ?_
            rw [m13, hnb]
            refine rr_goto (pc := 57) (tgt := 61) dX7_stands_57 (by decide) ?_
            exact rr_reti (pc := 61) dX7_stands_61 rfl rfl rfl rfl (hq1 _ (by unfold sNr; rw [if_neg hnd, if_pos (z_i10n h37), hed1]))
        · refine rr_aload_n (pc := 40) dX7_stands_40 rfl ?_
          refine rr_bipush (n := (-3)) dX7_stands_41 ?_
          refine rr_inv0 (M' := MX7_fails) (k := 116) (As := [_]) (pc := 43) dX7_stands_43 lX7_129 kX7_fails vX7_fails zk_116 (by decide) rfl (by decide) (by decide) (Nat.le_of_ble_eq_true rfl) rfl (eX7_failsG h (by decide) (by decide) (fun W1 o1 r1 => ?_))
          have hnr : sNr B N lo hi p = .inl (-3, p) := by unfold sNr; rw [if_neg hnd, if_neg (z_i10 h37)]
          refine rr_aload_n (pc := 46) dX7_stands_46 rfl ?_
          refine rr_getI (pc := 47) (ji := 14) dX7_stands_47 fX7_113 zk_116 zr_116_14 rfl ?_
          have r9 : W1 116 14 = -3 := r1.1
          rw [r9]
          refine rr_if_ne (pc := 50) (tgt := 60) dX7_stands_50 (by decide) (by unfold zR; omega) (fun h50 => ?_) (fun h50 => ?_)
          · refine rr_iconst (n := 0) dX7_stands_60 ?_
            exact rr_reti (pc := 61) dX7_stands_61 rfl rfl rfl rfl (hq0 (-3) hnr W1 o1.R r1)
          · exact absurd h50 (by decide)
    · refine rr_aload_n (pc := 15) dX7_stands_15 rfl ?_
      refine rr_bipush (n := (-2)) dX7_stands_16 ?_
      refine rr_inv0 (M' := MX7_fails) (k := 116) (As := [_]) (pc := 18) dX7_stands_18 lX7_129 kX7_fails vX7_fails zk_116 (by decide) rfl (by decide) (by decide) (Nat.le_of_ble_eq_true rfl) rfl (eX7_failsG h (by decide) (by decide) (fun W1 o1 r1 => ?_))
      have hnr : sNr B N lo hi p = .inl (-2, p) := by unfold sNr; rw [if_pos ((sDe_eq mpN).mpr (fun z => h12 (sKd_1.mpr z)))]
      refine rr_aload_n (pc := 21) dX7_stands_21 rfl ?_
      refine rr_getI (pc := 22) (ji := 14) dX7_stands_22 fX7_113 zk_116 zr_116_14 rfl ?_
      have r9 : W1 116 14 = -2 := r1.1
      rw [r9]
      refine rr_if_ne (pc := 25) (tgt := 46) dX7_stands_25 (by decide) (by unfold zR; omega) (fun h25 => ?_) (fun h25 => ?_)
      · refine rr_aload_n (pc := 46) dX7_stands_46 rfl ?_
        refine rr_getI (pc := 47) (ji := 14) dX7_stands_47 fX7_113 zk_116 zr_116_14 rfl ?_
        rw [r9]
        refine rr_if_ne (pc := 50) (tgt := 60) dX7_stands_50 (by decide) (by unfold zR; omega) (fun h50 => ?_) (fun h50 => ?_)
        · refine rr_iconst (n := 0) dX7_stands_60 ?_
          exact rr_reti (pc := 61) dX7_stands_61 rfl rfl rfl rfl (hq0 (-2) hnr W1 o1.R r1)
        · exact absurd h50 (by decide)
      · exact absurd h25 (by decide)
theorem dX7_takes_0 : decode cX7_takes 0 = .ok (.aload_n 0, 1) := by decide +kernel
theorem dX7_takes_1 : decode cX7_takes 1 = .ok (.iload_n 1, 1) := by decide +kernel
theorem dX7_takes_2 : decode cX7_takes 2 = .ok (.iload_n 2, 1) := by decide +kernel
theorem dX7_takes_3 : decode cX7_takes 3 = .ok (.invokevirtual 135, 3) := by decide +kernel
theorem dX7_takes_6 : decode cX7_takes 6 = .ok (.istore_n 3, 1) := by decide +kernel
theorem dX7_takes_7 : decode cX7_takes 7 = .ok (.aload_n 0, 1) := by decide +kernel
theorem dX7_takes_8 : decode cX7_takes 8 = .ok (.getfield 113, 3) := by decide +kernel
theorem dX7_takes_11 : decode cX7_takes 11 = .ok (.ifCond .ne 7, 3) := by decide +kernel
theorem dX7_takes_14 : decode cX7_takes 14 = .ok (.aload_n 0, 1) := by decide +kernel
theorem dX7_takes_15 : decode cX7_takes 15 = .ok (.invokevirtual 132, 3) := by decide +kernel
theorem dX7_takes_18 : decode cX7_takes 18 = .ok (.iload_n 3, 1) := by decide +kernel
theorem dX7_takes_19 : decode cX7_takes 19 = .ok (.ireturn, 1) := by decide +kernel
theorem eX7_takes {W : zWd} {B : Nat → Int} {N p : Nat} {d lo hi : Int} {a : Int → Int}  {Q : Option Value → zWd → Prop} {X : zX} (h : zMR W B N d (.inr (p, a))) (hlo : zR lo) (hhi : zR hi) (hq0 : ∀ c : Int, sNr B N lo hi p = .inl (c, p) → ∀ W' : zWd, zOfR W W' → zMR W' B N d (.inl (c, p)) → Q (some (zI 0)) W') (hq1 : ∀ (p' : Nat) (v : Int), sNr B N lo hi p = .inr (p', v) → ∀ W' : zWd, zOfR W W' → zMR W' B N d (.inr (p', a)) → Q (some (zI v)) W') : Ev MX7_takes 3 0 W [.ref 116, zI lo, zI hi] Q X := by
  refine ev_of (ls := [.ref 116, zI lo, zI hi, .null]) (by decide) rfl (fun _ => rfl) (fun _ => Nat.le_of_ble_eq_true rfl) (Or.inl rfl) ?_
  refine rr_aload_n (pc := 0) dX7_takes_0 rfl ?_
  refine rr_iload_n (pc := 1) dX7_takes_1 rfl ?_
  refine rr_iload_n (pc := 2) dX7_takes_2 rfl ?_
  refine rr_inv0 (M' := MX7_stands) (k := 116) (As := [_, _]) (pc := 3) dX7_takes_3 lX7_135 kX7_stands vX7_stands zk_116 (by decide) rfl (by decide) (by decide) (Nat.le_of_ble_eq_true rfl) rfl (eX7_stands h hlo hhi (fun c hn W1 o1 r1 => ?_) (fun v hn => ?_))
  · refine rr_istore_n (pc := 6) dX7_takes_6 (by decide) ?_
    refine rr_aload_n (pc := 7) dX7_takes_7 rfl ?_
    refine rr_getI (pc := 8) (ji := 14) dX7_takes_8 fX7_113 zk_116 zr_116_14 rfl ?_
    rw [r1.1]
    refine rr_if_ne (pc := 11) (tgt := 18) dX7_takes_11 (by decide) (by have := r1.2.1; have := r1.2.2.1; unfold zR; omega) (fun h11 => ?_) (fun h11 => ?_)
    · refine rr_iload_n (pc := 18) dX7_takes_18 rfl ?_
      exact rr_reti (pc := 19) dX7_takes_19 rfl rfl rfl rfl (hq0 c hn W1 o1 r1)
    · exact absurd h11 (by have := r1.2.2.1; omega)
  · refine rr_istore_n (pc := 6) dX7_takes_6 (by decide) ?_
    refine rr_aload_n (pc := 7) dX7_takes_7 rfl ?_
    refine rr_getI (pc := 8) (ji := 14) dX7_takes_8 fX7_113 zk_116 zr_116_14 rfl ?_
    rw [h.1.2.2]
    refine rr_if_ne (pc := 11) (tgt := 18) dX7_takes_11 (by decide) (by unfold zR; omega) (fun h11 => ?_) (fun h11 => ?_)
    · exact absurd rfl h11
    · refine rr_aload_n (pc := 14) dX7_takes_14 rfl ?_
      refine rr_inv0 (M' := MX7_next) (k := 116) (As := []) (pc := 15) dX7_takes_15 lX7_132 kX7_next vX7_next zk_116 (by decide) rfl (by decide) (by decide) (Nat.le_of_ble_eq_true rfl) rfl (eX7_nextG h (fun W1 o1 r1 => ?_))
      refine rr_iload_n (pc := 18) dX7_takes_18 rfl ?_
      exact rr_reti (pc := 19) dX7_takes_19 rfl rfl rfl rfl (hq1 _ v hn W1 o1.R r1)
