/-! a player: its name -/
theorem aLet_at {a : Int → Int} {pl : Int} {B : Nat → Int} {p : Nat} : ∀ (n : Nat) (k : Int), 0 ≤ k → aLet a pl B p n (58 + 17 * pl + (9 + k)) = if k < n then B (p + k.toNat) else a (58 + 17 * pl + (9 + k)) := by
  intro n
  induction n with
  | zero => intro k h; rw [if_neg (by omega)]; rfl
  | succ n ih =>
    intro k h
    unfold aLet
    by_cases e : k = n
    · subst e
      rw [iup_s, if_pos (by omega), Int.toNat_natCast]
    · rw [iup_n (by omega), ih k h]
      by_cases z : k < n
      · rw [if_pos z, if_pos (by omega)]
      · rw [if_neg z, if_neg (by omega)]
theorem aLet_o {a : Int → Int} {pl : Int} {B : Nat → Int} {p : Nat} {j : Int} : ∀ (n : Nat), (∀ k : Int, 0 ≤ k → k < n → j ≠ 58 + 17 * pl + (9 + k)) → aLet a pl B p n j = a j := by
  intro n
  induction n with
  | zero => intro _; rfl
  | succ n ih =>
    intro h
    unfold aLet
    rw [iup_n (h n (by omega) (by omega)), ih (fun k h0 h1 => h k h0 (by omega))]
theorem zPs.addP {a : Int → Int} (h : zPs a) (h6 : a 2 < 6) (h1 : 1 ≤ a 1) : zPs (aAddP a) := by
  refine ⟨aAddP_pf h.1 h6 h1, fun j g1 g2 => ?_⟩
  have h9 := h.2 j g1 g2
  have h2 := h.1.2.2.2.2.1
  unfold aAddP
  (repeat' split) <;> omega
theorem zPs.lets {a : Int → Int} {pl : Int} {B : Nat → Int} {p : Nat} (h0 : 0 ≤ pl) (h : zPs a) : ∀ n : Nat, n ≤ 8 → (∀ k : Nat, k < n → 1 ≤ B (p + k) ∧ B (p + k) ≤ 255) → zPs (aLet a pl B p n) := by
  intro n
  induction n with
  | zero => intro _ _; exact h
  | succ n ih =>
    intro hn hB
    have h9 := ih (by omega) (fun k hk => hB k (by omega))
    have hb := hB n (by omega)
    exact zPs.up h9 (zPf_L h9.1 h0 (by omega) (by omega)) (by omega) (by omega)
def aNL (a : Int → Int) (q : Int) (f : Int → Int) (n : Int) : Int → Int := fun j => if 58 + 17 * q + 9 ≤ j ∧ j < 58 + 17 * q + 9 + n then f (j - (58 + 17 * q + 9)) else a j
theorem aNL_0 {a : Int → Int} {q : Int} {f : Int → Int} : aNL a q f 0 = a := by funext j; unfold aNL; rw [if_neg (by omega)]
theorem aNL_s {a : Int → Int} {q : Int} {f : Int → Int} {n v : Int} (h : 0 ≤ n) (hv : v = f n) : iup (aNL a q f n) (58 + 17 * q + (9 + n)) v = aNL a q f (n + 1) := by
  subst hv
  funext j; unfold iup aNL
  by_cases z : j = 58 + 17 * q + (9 + n)
  · rw [if_pos z, if_pos (by omega), show j - (58 + 17 * q + 9) = n by omega]
  · rw [if_neg z]
    by_cases y : 58 + 17 * q + 9 ≤ j ∧ j < 58 + 17 * q + 9 + n
    · rw [if_pos y, if_pos (by omega)]
    · rw [if_neg y, if_neg (by omega)]
theorem zRw.name {W W' : zWd} {B : Nat → Int} {N p1 : Nat} {a : Int → Int} {q : Int} (h : zRw W 0 a) (hq : q = a 2) (h0 : 0 ≤ q) (h6 : q < 6) (hk : sKd B N p1 = 0) (h8 : sWe B N p1 - p1 ≤ 8) (hp : p1 ≤ sWe B N p1) (e : W' 117 = aNL (aNewP (W 117) q) q (nLt B N p1) 8) : zRw W' 1 (aLet (aAddP a) q B p1 (sWe B N p1 - p1)) := by
  have hed := sEd_w hk
  have e2 : W 117 2 = a 2 := by have := h.2.1; omega
  have l2 : aLet (aAddP a) q B p1 (sWe B N p1 - p1) 2 = a 2 + 1 := by rw [aLet_o _ (fun k g1 g2 => by omega), aAddP_2]
  have w2 : W' 117 2 = a 2 := by
    rw [e]
    show (if _ then _ else _) = _
    rw [if_neg (by omega)]
    show (if _ then _ else _) = _
    rw [if_neg (by omega)]; exact e2
  refine ⟨fun j g0 g1 g2 => ?_, by rw [w2, l2]; omega, by omega, by omega⟩
  rw [e]
  by_cases z : 58 + 17 * q + 9 ≤ j ∧ j < 58 + 17 * q + 9 + 8
  · have ez : aNL (aNewP (W 117) q) q (nLt B N p1) 8 j = nLt B N p1 (j - (58 + 17 * q + 9)) := if_pos z
    obtain ⟨k, hk0⟩ : ∃ k : Int, j = 58 + 17 * q + (9 + k) := ⟨j - (58 + 17 * q + 9), by omega⟩
    rw [ez, hk0, aLet_at _ k (by omega), show 58 + 17 * q + (9 + k) - (58 + 17 * q + 9) = k by omega]
    unfold nLt
    rw [hed]
    by_cases y : k < ((sWe B N p1 - p1 : Nat) : Int)
    · rw [if_pos y, if_pos (by omega)]
    · rw [if_neg y, if_neg (by omega)]
      show 0 = aAddP a _
      unfold aAddP
      rw [if_neg (by omega), if_pos (by omega), if_neg (by omega), if_neg (by omega), if_neg (by omega)]
  · have ez : aNL (aNewP (W 117) q) q (nLt B N p1) 8 j = aNewP (W 117) q j := if_neg z
    rw [ez, aLet_o _ (fun k g3 g4 => by omega)]
    unfold aNewP aAddP
    rw [if_neg g2, ← hq]
    by_cases y : 58 + 17 * q ≤ j ∧ j < 58 + 17 * q + 17
    · rw [if_pos y, if_pos y]
    · rw [if_neg y, if_neg y]; exact h.1 j g0 g1 g2
/-- the name is that of a player before it -/
theorem sameN_nm {B : Nat → Int} {N p1 : Nat} {a : Int → Int} {q o : Int} (hq : q = a 2) (h0 : 0 ≤ q) (ho0 : 0 ≤ o) (ho : o < q) (hk : sKd B N p1 = 0) (h8 : sWe B N p1 - p1 ≤ 8) (hp : p1 ≤ sWe B N p1) : sameN (aLet (aAddP a) q B p1 (sWe B N p1 - p1)) o q = true ↔ isNm B N p1 a o = true := by
  have hed := sEd_w hk
  rw [sameN_iff, isNm_iff]
  have e1 : ∀ k : Int, 0 ≤ k → k < 8 → aP (aLet (aAddP a) q B p1 (sWe B N p1 - p1)) o (9 + k) = aP a o (9 + k) := fun k g0 g1 => by
    show aLet (aAddP a) q B p1 _ _ = _
    rw [aLet_o _ (fun k' g3 g4 => by omega)]
    exact aAddP_q ho0 (by omega) (by omega) (by omega)
  have e2 : ∀ k : Int, 0 ≤ k → k < 8 → aP (aLet (aAddP a) q B p1 (sWe B N p1 - p1)) q (9 + k) = nLt B N p1 k := fun k g0 g1 => by
    show aLet (aAddP a) q B p1 _ _ = _
    rw [aLet_at _ k g0]
    unfold nLt
    rw [hed]
    by_cases y : k < ((sWe B N p1 - p1 : Nat) : Int)
    · rw [if_pos y, if_pos (by omega)]
    · rw [if_neg y, if_neg (by omega)]
      show aAddP a _ = 0
      unfold aAddP
      rw [if_neg (by omega), if_pos (by omega), if_neg (by omega), if_neg (by omega), if_neg (by omega)]
  constructor
  · intro h k g0 g1; rw [← e1 k g0 g1, h k g0 g1, e2 k g0 g1]
  · intro h k g0 g1; rw [e1 k g0 g1, h k g0 g1, e2 k g0 g1]
def sPl1 (B : Nat → Int) (N p : Nat) (a : Int → Int) : zRs := if ¬ sW B N p wPlayer = true then .inl (-2, p) else if a 2 = 6 then .inl (-5, p) else zBind (sName B N (adv B N p) (aAddP a) (a 2)) fun p a' => sParts B N p a' (a 2)
theorem eX7_rpOut {W : zWd} {d c : Int} {p : Nat} {q i : Int} {Q : Option Value → zWd → Prop} {X : zX} (h : zBd W d c p) (hz : zR q) (hi : zR i) (hq : Q none W) : RR MX7_readsPlayer 7 0 W 74 [.ref 116, zI q, zI i] [] (zEnd MX7_readsPlayer Q X) X := by
  refine rr_iload_n (pc := 74) dX7_readsPlayer_74 rfl ?_
  refine rr_iload_n (pc := 75) dX7_readsPlayer_75 rfl ?_
  refine rr_icmp_ge (pc := 76) (tgt := 106) dX7_readsPlayer_76 (by decide) hi hz (fun h76 => ?_) (fun h76 => ?_)
  · refine rr_aload_n (pc := 106) dX7_readsPlayer_106 rfl ?_
    refine rr_getI (pc := 107) (ji := 14) dX7_readsPlayer_107 fX7_113 zk_116 zr_116_14 rfl ?_
    refine rr_if_eq (pc := 110) (tgt := 114) dX7_readsPlayer_110 (by decide) h.z.1 (fun h110 => ?_) (fun h110 => ?_)
    · exact absurd h110 h.z.2
    · exact rr_retv (pc := 113) dX7_readsPlayer_113 rfl rfl (hq)
  · refine rr_aload_n (pc := 79) dX7_readsPlayer_79 rfl ?_
    refine rr_getI (pc := 80) (ji := 14) dX7_readsPlayer_80 fX7_113 zk_116 zr_116_14 rfl ?_
    refine rr_if_ne (pc := 83) (tgt := 106) dX7_readsPlayer_83 (by decide) h.z.1 (fun h83 => ?_) (fun h83 => ?_)
    · refine rr_aload_n (pc := 106) dX7_readsPlayer_106 rfl ?_
      refine rr_getI (pc := 107) (ji := 14) dX7_readsPlayer_107 fX7_113 zk_116 zr_116_14 rfl ?_
      refine rr_if_eq (pc := 110) (tgt := 114) dX7_readsPlayer_110 (by decide) h.z.1 (fun h110 => ?_) (fun h110 => ?_)
      · exact absurd h110 h.z.2
      · exact rr_retv (pc := 113) dX7_readsPlayer_113 rfl rfl (hq)
    · exact absurd h83 h.z.2
theorem eX7_rpOut0 {W : zWd} {d c : Int} {p : Nat} {q : Int} {x2 : Value} {Q : Option Value → zWd → Prop} {X : zX} (h : zBd W d c p) (hz : zR q) (hq : Q none W) : RR MX7_readsPlayer 7 0 W 72 [.ref 116, zI q, x2] [] (zEnd MX7_readsPlayer Q X) X := by
  refine rr_iconst (n := 0) dX7_readsPlayer_72 ?_
  refine rr_istore_n (pc := 73) dX7_readsPlayer_73 (by decide) ?_
  exact eX7_rpOut h hz (by unfold zR; omega) hq
theorem eX7_rpName {W : zWd} {B : Nat → Int} {N p : Nat} {a : Int → Int} {q : Int} {x2 : Value} {r9 : zRs} {Q : Option Value → zWd → Prop} {X : zX} (h : zMR W B N 0 (.inr (p, a))) (hq2 : q = a 2) (h0 : 0 ≤ q) (h6 : q < 6) (h1a : 1 ≤ a 1) (hkd0 : sKd B N p = 0) (h8 : sWe B N p - p ≤ 8) (hsn : r9 = zBind (.inr (adv B N p, aLet (aAddP a) q B p (sWe B N p - p))) fun p a' => sParts B N p a' q) (hq : ∀ W' : zWd, zOfR W W' → zMR W' B N 0 r9 → Q none W') : RR MX7_readsPlayer 7 0 W 114 [.ref 116, zI q, x2] [] (zEnd MX7_readsPlayer Q X) X := by
  have hGG : zGd W B N p ∧ zRw W 0 a ∧ zPs a := h
  obtain ⟨hG, hRw, hPf⟩ := id hGG
  obtain ⟨hT, hM, h14⟩ := id hG
  obtain ⟨m10, mpN, m11, m12, m13⟩ := id hM
  have h600 := hT.2.1
  have hed := sEd_rng (B := B) mpN
  have hkd := @sKd_rng B N p
  have hed0 := sEd_w hkd0
  have hwe : p ≤ sWe B N p ∧ sWe B N p ≤ N := sRun_rng _ _ mpN
  have loop : ∀ (n : Nat) (k : Int) (Wi : zWd), 0 ≤ k → k ≤ 8 → zOfm W Wi → Wi 117 = aNL (aNewP (W 117) q) q (nLt B N p) k → (8 - k).toNat < n → RR MX7_readsPlayer 7 0 Wi 121 [.ref 116, zI q, zI k] [] (zEnd MX7_readsPlayer Q X) X := by
    intro n
    induction n with
    | zero => intro k Wi _ _ _ _ hm9; omega
    | succ n ih =>
      intro k Wi h1 h2 hO e7 hm9
      have m10 : Wi 116 10 = p := by rw [hO 116 (by decide)]; exact m10
      have m11 : Wi 116 11 = sEd B N p := by rw [hO 116 (by decide)]; exact m11
      refine rr_iload_n (pc := 121) dX7_readsPlayer_121 rfl ?_
      refine rr_bipush (n := (8)) dX7_readsPlayer_122 ?_
      refine rr_icmp_ge (pc := 124) (tgt := 170) dX7_readsPlayer_124 (by decide) (by unfold zR; omega) (by unfold zR; omega) (fun h124 => ?_) (fun h124 => ?_)
      · rw [show k = 8 by omega] at e7
        refine rr_aload_n (pc := 170) dX7_readsPlayer_170 rfl ?_
        have hw9 := zRw.name hRw hq2 h0 h6 hkd0 h8 hwe.1 e7
        have rN : zMR Wi B N 1 (.inr (p, aLet (aAddP a) q B p (sWe B N p - p))) := ⟨zGd.m hG hO, hw9, zPs.lets h0 (zPs.addP hPf (by omega) h1a) _ h8 (fun k hk => ⟨(hT.2.2 (p + k) (by omega)).1, (hT.2.2 (p + k) (by omega)).2.1⟩)⟩
        refine rr_inv0 (M' := MX7_next) (k := 116) (As := []) (pc := 171) dX7_readsPlayer_171 lX7_132 kX7_next vX7_next zk_116 (by decide) rfl (by decide) (by decide) (Nat.le_of_ble_eq_true rfl) rfl (eX7_nextG rN (fun W3 o3 r3 => ?_))
        rw [hed0] at r3
        refine eX7_rpAll (q := q) r3 h0 h6 (fun g hg => ?_) (fun W4 o4 r4 => hq W4 (hO.R.tr (o3.R.tr o4)) ?_)
        · injection hg with hg
          rw [← hg]
          show aLet (aAddP a) q B p (sWe B N p - p) 2 = q + 1
          rw [aLet_o _ (fun k g1 g2 => by omega), aAddP_2, hq2]
        · rw [hsn]; exact r4
      · refine rr_aload_n (pc := 127) dX7_readsPlayer_127 rfl ?_
        refine rr_iload_n (pc := 128) dX7_readsPlayer_128 rfl ?_
        refine rr_bipush (n := (9)) dX7_readsPlayer_129 ?_
        refine rr_iload_n (pc := 131) dX7_readsPlayer_131 rfl ?_
        refine rr_iadd (pc := 132) dX7_readsPlayer_132 ?_
        refine rr_aload_n (pc := 133) dX7_readsPlayer_133 rfl ?_
        refine rr_getI (pc := 134) (ji := 10) dX7_readsPlayer_134 fX7_91 zk_116 zr_116_10 rfl ?_
        refine rr_iload_n (pc := 137) dX7_readsPlayer_137 rfl ?_
        refine rr_iadd (pc := 138) dX7_readsPlayer_138 ?_
        refine rr_aload_n (pc := 139) dX7_readsPlayer_139 rfl ?_
        refine rr_getI (pc := 140) (ji := 11) dX7_readsPlayer_140 fX7_88 zk_116 zr_116_11 rfl ?_
        refine rr_icmp_ge (pc := 143) (tgt := 160) dX7_readsPlayer_143 (by decide) (by unfold zR; omega) (by unfold zR; omega) (fun h143 => ?_) (fun h143 => ?_)
        · refine rr_iconst (n := 0) dX7_readsPlayer_160 ?_
          have hn : (0 : Int) = nLt B N p k := by unfold nLt; rw [if_neg (by omega)]
          refine rr_inv0 (M' := MX7_sets) (k := 116) (As := [_, _, _]) (pc := 161) dX7_readsPlayer_161 lX7_55 kX7_sets vX7_sets zk_116 (by decide) rfl (by decide) (by decide) (Nat.le_of_ble_eq_true rfl) rfl (eX7_sets (by omega) (by omega) (by omega) (by omega) ?_)
          refine rr_iinc (pc := 164) dX7_readsPlayer_164 rfl (by decide) ?_
          refine rr_goto (pc := 167) (tgt := 121) dX7_readsPlayer_167 (by decide) ?_
          exact ih (k + 1) _ (by omega) (by omega) hO.up (by rw [zup_at, e7, aNL_s h1 hn]) (by omega)
        · refine rr_aload_n (pc := 146) dX7_readsPlayer_146 rfl ?_
          refine rr_getR (pc := 147) dX7_readsPlayer_147 fX7_29 zk_116 zr_116_8 ?_
          refine rr_aload_n (pc := 150) dX7_readsPlayer_150 rfl ?_
          refine rr_getI (pc := 151) (ji := 10) dX7_readsPlayer_151 fX7_91 zk_116 zr_116_10 rfl ?_
          rw [m10]
          refine rr_iload_n (pc := 154) dX7_readsPlayer_154 rfl ?_
          refine rr_iadd (pc := 155) dX7_readsPlayer_155 ?_
          have hb := hT.2.2 (p + k.toNat) (by omega)
          refine rr_iald (pc := 156) dX7_readsPlayer_156 zk_123 (by omega) (by omega) ?_
          rw [show Wi 123 = W 123 from hO 123 (by decide), show (p : Int) + k = ((p + k.toNat : Nat) : Int) by omega, hb.2.2]
          refine rr_goto (pc := 157) (tgt := 161) dX7_readsPlayer_157 (by decide) ?_
          have hn : B (p + k.toNat) = nLt B N p k := by unfold nLt; rw [if_pos (by omega)]
          refine rr_inv0 (M' := MX7_sets) (k := 116) (As := [_, _, _]) (pc := 161) dX7_readsPlayer_161 lX7_55 kX7_sets vX7_sets zk_116 (by decide) rfl (by decide) (by decide) (Nat.le_of_ble_eq_true rfl) rfl (eX7_sets (by omega) (by omega) (by omega) (by omega) ?_)
          refine rr_iinc (pc := 164) dX7_readsPlayer_164 rfl (by decide) ?_
          refine rr_goto (pc := 167) (tgt := 121) dX7_readsPlayer_167 (by decide) ?_
          exact ih (k + 1) _ (by omega) (by omega) hO.up (by rw [zup_at, e7, aNL_s h1 hn]) (by omega)
  refine rr_aload_n (pc := 114) dX7_readsPlayer_114 rfl ?_
  refine rr_iload_n (pc := 115) dX7_readsPlayer_115 rfl ?_
  refine rr_inv0 (M' := MX7_beginsPlayer) (k := 116) (As := [_]) (pc := 116) dX7_readsPlayer_116 lX7_51 kX7_beginsPlayer vX7_beginsPlayer zk_116 (by decide) rfl (by decide) (by decide) (Nat.le_of_ble_eq_true rfl) rfl (eX7_beginsPlayer h0 h6 (fun W2 o2 e2 => ?_))
  refine rr_iconst (n := 0) dX7_readsPlayer_119 ?_
  refine rr_istore_n (pc := 120) dX7_readsPlayer_120 (by decide) ?_
  exact loop _ 0 W2 (by omega) (by omega) o2 (by rw [e2]; exact aNL_0.symm) (Nat.lt_succ_self _)
theorem eX7_rpTw {W : zWd} {B : Nat → Int} {N p : Nat} {a : Int → Int} {q : Int} {x2 : Value} {Q : Option Value → zWd → Prop} {X : zX} (h : zMR W B N 0 (.inr (p, a))) (hq2 : q = a 2) (h0 : 0 ≤ q) (h6 : q < 6) (h1a : 1 ≤ a 1) (hkd0 : sKd B N p = 0) (h8 : sWe B N p - p ≤ 8) (hq : ∀ W' : zWd, zOfR W W' → zMR W' B N 0 (zBind (sName B N p (aAddP a) q) fun p a' => sParts B N p a' q) → Q none W') : RR MX7_readsPlayer 7 0 W 72 [.ref 116, zI q, x2] [] (zEnd MX7_readsPlayer Q X) X := by
  have hGG : zGd W B N p ∧ zRw W 0 a ∧ zPs a := h
  obtain ⟨hG, hRw, hPf⟩ := id hGG
  obtain ⟨hT, hM, h14⟩ := id hG
  obtain ⟨m10, mpN, m11, m12, m13⟩ := id hM
  have h600 := hT.2.1
  have hed := sEd_rng (B := B) mpN
  have hkd := @sKd_rng B N p
  have hwe : p ≤ sWe B N p ∧ sWe B N p ≤ N := sRun_rng _ _ mpN
  have hwl : ¬ sWe B N p = p := fun z => by
    have h9 := sKd_0.mp hkd0
    have h7 := sRun_y (f := fLe) h9.1 h9.2
    have h5 := (sRun_rng (f := fLe) (B := B) (N := N) (N - (p + 1)) (p + 1) (by omega)).1
    have h3 : sWe B N p = sRun fLe B N (N - p) p := rfl
    omega
  have loop : ∀ (n : Nat) (i : Int), 0 ≤ i → i ≤ q → (∀ o : Int, 0 ≤ o → o < i → ¬ isNm B N p a o = true) → (q - i).toNat < n → RR MX7_readsPlayer 7 0 W 74 [.ref 116, zI q, zI i] [] (zEnd MX7_readsPlayer Q X) X := by
    intro n
    induction n with
    | zero => intro i _ _ _ hm9; omega
    | succ n ih =>
      intro i h1 h2 hA hm9
      refine rr_iload_n (pc := 74) dX7_readsPlayer_74 rfl ?_
      refine rr_iload_n (pc := 75) dX7_readsPlayer_75 rfl ?_
      refine rr_icmp_ge (pc := 76) (tgt := 106) dX7_readsPlayer_76 (by decide) (by unfold zR; omega) (by unfold zR; omega) (fun h76 => ?_) (fun h76 => ?_)
      · refine rr_aload_n (pc := 106) dX7_readsPlayer_106 rfl ?_
        refine rr_getI (pc := 107) (ji := 14) dX7_readsPlayer_107 fX7_113 zk_116 zr_116_14 rfl ?_
        rw [h14]
        refine rr_if_eq (pc := 110) (tgt := 114) dX7_readsPlayer_110 (by decide) (by unfold zR; omega) (fun h110 => ?_) (fun h110 => ?_)
        · refine eX7_rpName h hq2 h0 h6 h1a hkd0 h8 ?_ hq
          rw [show sName B N p (aAddP a) q = .inr (adv B N p, aLet (aAddP a) q B p (sWe B N p - p)) by
            unfold sName
            rw [if_neg (by omega), if_neg (fun z => by
              obtain ⟨o, g1, g2⟩ := List.any_eq_true.mp z
              have g1 := List.mem_range.mp g1
              exact hA o (by omega) (by omega) ((sameN_nm hq2 h0 (by omega) (by omega) hkd0 h8 hwe.1).mp g2))]]
        · exact absurd rfl h110
      · refine rr_aload_n (pc := 79) dX7_readsPlayer_79 rfl ?_
        refine rr_getI (pc := 80) (ji := 14) dX7_readsPlayer_80 fX7_113 zk_116 zr_116_14 rfl ?_
        rw [h14]
        refine rr_if_ne (pc := 83) (tgt := 106) dX7_readsPlayer_83 (by decide) (by unfold zR; omega) (fun h83 => ?_) (fun h83 => ?_)
        · exact absurd rfl h83
        · refine rr_aload_n (pc := 86) dX7_readsPlayer_86 rfl ?_
          refine rr_iload_n (pc := 87) dX7_readsPlayer_87 rfl ?_
          refine rr_inv0 (M' := MX7_isName) (k := 116) (As := [_]) (pc := 88) dX7_readsPlayer_88 lX7_159 kX7_isName vX7_isName zk_116 (by decide) rfl (by decide) (by decide) (Nat.le_of_ble_eq_true rfl) rfl (eX7_isName hG hRw hPf.2 (by omega) (by omega) ?_)
          refine rr_if_eq (pc := 91) (tgt := 100) dX7_readsPlayer_91 (by decide) (by split <;> (unfold zR; omega)) (fun h91 => ?_) (fun h91 => ?_)
          · refine rr_iinc (pc := 100) dX7_readsPlayer_100 rfl (by decide) ?_
            refine rr_goto (pc := 103) (tgt := 74) dX7_readsPlayer_103 (by decide) ?_
            refine ih (i + 1) (by omega) (by omega) (fun o g1 g2 => ?_) (by omega)
            by_cases z : o = i
            · subst z; exact z_i10 h91
            · exact hA o g1 (by omega)
          · refine rr_aload_n (pc := 94) dX7_readsPlayer_94 rfl ?_
            refine rr_bipush (n := (-4)) dX7_readsPlayer_95 ?_
            have hnm := z_i10n h91
            refine rr_inv0 (M' := MX7_fails) (k := 116) (As := [_]) (pc := 97) dX7_readsPlayer_97 lX7_129 kX7_fails vX7_fails zk_116 (by decide) rfl (by decide) (by decide) (Nat.le_of_ble_eq_true rfl) rfl (eX7_failsG h (by decide) (by decide) (fun W1 o1 r1 => ?_))
            refine rr_iinc (pc := 100) dX7_readsPlayer_100 rfl (by decide) ?_
            refine rr_goto (pc := 103) (tgt := 74) dX7_readsPlayer_103 (by decide) ?_
            refine eX7_rpOut r1 (by unfold zR; omega) (by unfold zR; omega) (hq W1 o1.R ?_)
            rw [show sName B N p (aAddP a) q = .inl (-4, p) by
              unfold sName
              rw [if_neg (by omega), if_pos (List.any_eq_true.mpr ⟨i.toNat, List.mem_range.mpr (by omega), by rw [show ((i.toNat : Nat) : Int) = i by omega]; exact (sameN_nm hq2 h0 h1 (by omega) hkd0 h8 hwe.1).mpr hnm⟩)]]
            exact r1
  refine rr_iconst (n := 0) dX7_readsPlayer_72 ?_
  refine rr_istore_n (pc := 73) dX7_readsPlayer_73 (by decide) ?_
  exact loop _ 0 (by omega) (by omega) (fun o g1 g2 => by omega) (Nat.lt_succ_self _)
theorem eX7_readsPlayerG {W : zWd} {B : Nat → Int} {N p : Nat} {a : Int → Int} {Q : Option Value → zWd → Prop} {X : zX} (h : zMR W B N 0 (.inr (p, a))) (h1a : 1 ≤ a 1) (hq : ∀ W' : zWd, zOfR W W' → zMR W' B N 0 (sPl1 B N p a) → Q none W') : Ev MX7_readsPlayer 7 0 W [.ref 116] Q X := by
  refine ev_of (ls := [.ref 116, .null, .null]) (by decide) rfl (fun _ => rfl) (fun _ => Nat.le_of_ble_eq_true rfl) (Or.inl rfl) ?_
  have hGG : zGd W B N p ∧ zRw W 0 a ∧ zPs a := h
  obtain ⟨hG, hRw, hPf⟩ := id hGG
  obtain ⟨hT, hM, h14⟩ := id hG
  obtain ⟨m10, mpN, m11, m12, m13⟩ := id hM
  have h600 := hT.2.1
  have hed := sEd_rng (B := B) mpN
  have hkd := @sKd_rng B N p
  have e2 : W 117 2 = a 2 := by have := hRw.2.1; omega
  have p2 := hPf.1.2.2.2.2.1
  have p2' := hPf.1.2.2.2.2.2.1
  refine rr_aload_n (pc := 0) dX7_readsPlayer_0 rfl ?_
  refine rr_getR (pc := 1) dX7_readsPlayer_1 fX7_7 zk_116 zr_116_0 ?_
  refine rr_iconst (n := 2) dX7_readsPlayer_4 ?_
  refine rr_iald (pc := 5) dX7_readsPlayer_5 zk_117 (by omega) (by omega) ?_
  rw [e2]
  refine rr_istore_n (pc := 6) dX7_readsPlayer_6 (by decide) ?_
  refine rr_aload_n (pc := 7) dX7_readsPlayer_7 rfl ?_
  refine rr_ldcs (pc := 8) 15 dX7_readsPlayer_8 rfl ?_
  refine rr_inv0 (M' := MX7_isWord) (k := 116) (As := [_]) (pc := 10) dX7_readsPlayer_10 lX7_138 kX7_isWord vX7_isWord zk_116 (by decide) rfl (by decide) (by decide) (Nat.le_of_ble_eq_true rfl) rfl (eG_Player h ?_)
  refine rr_if_eq (pc := 13) (tgt := 28) dX7_readsPlayer_13 (by decide) (by split <;> (unfold zR; omega)) (fun h13 => ?_) (fun h13 => ?_)
  · have hnp := z_i10 h13
    have hS : sPl1 B N p a = .inl (-2, p) := if_pos hnp
    refine rr_aload_n (pc := 28) dX7_readsPlayer_28 rfl ?_
    refine rr_aload_n (pc := 29) dX7_readsPlayer_29 rfl ?_
    refine rr_ldcs (pc := 30) 15 dX7_readsPlayer_30 rfl ?_
    refine rr_inv0 (M' := MX7_isWord) (k := 116) (As := [_]) (pc := 32) dX7_readsPlayer_32 lX7_138 kX7_isWord vX7_isWord zk_116 (by decide) rfl (by decide) (by decide) (Nat.le_of_ble_eq_true rfl) rfl (eG_Player h ?_)
    refine rr_inv0 (M' := MX7_must) (k := 116) (As := [_]) (pc := 35) dX7_readsPlayer_35 lX7_150 kX7_must vX7_must zk_116 (by decide) rfl (by decide) (by decide) (Nat.le_of_ble_eq_true rfl) rfl (eX7_must h (fun W1 o1 r1 => ?_))
    have r1 : zMR W1 B N 0 (.inl (-2, p)) := by
      have h9 : sMst B N (sW B N p wPlayer) (.inr (p, a)) = .inl (-2, p) := if_neg hnp
      rw [h9] at r1; exact r1
    have hb1 : zBd W1 0 (-2) p := r1
    refine rr_aload_n (pc := 38) dX7_readsPlayer_38 rfl ?_
    refine rr_getI (pc := 39) (ji := 14) dX7_readsPlayer_39 fX7_113 zk_116 zr_116_14 rfl ?_
    refine rr_if_ne (pc := 42) (tgt := 72) dX7_readsPlayer_42 (by decide) hb1.z.1 (fun h42 => ?_) (fun h42 => ?_)
    · exact eX7_rpOut0 hb1 (by unfold zR; omega) (hq W1 o1 (by rw [hS]; exact r1))
    · exact absurd h42 hb1.z.2
  · refine rr_iload_n (pc := 16) dX7_readsPlayer_16 rfl ?_
    refine rr_bipush (n := (6)) dX7_readsPlayer_17 ?_
    refine rr_icmp_ne (pc := 19) (tgt := 28) dX7_readsPlayer_19 (by decide) (by unfold zR; omega) (by unfold zR; omega) (fun h19 => ?_) (fun h19 => ?_)
    · refine rr_aload_n (pc := 28) dX7_readsPlayer_28 rfl ?_
      refine rr_aload_n (pc := 29) dX7_readsPlayer_29 rfl ?_
      refine rr_ldcs (pc := 30) 15 dX7_readsPlayer_30 rfl ?_
      have hip := z_i10n h13
      refine rr_inv0 (M' := MX7_isWord) (k := 116) (As := [_]) (pc := 32) dX7_readsPlayer_32 lX7_138 kX7_isWord vX7_isWord zk_116 (by decide) rfl (by decide) (by decide) (Nat.le_of_ble_eq_true rfl) rfl (eG_Player h ?_)
      refine rr_inv0 (M' := MX7_must) (k := 116) (As := [_]) (pc := 35) dX7_readsPlayer_35 lX7_150 kX7_must vX7_must zk_116 (by decide) rfl (by decide) (by decide) (Nat.le_of_ble_eq_true rfl) rfl (eX7_must h (fun W1 o1 r1 => ?_))
      have r1 : zMR W1 B N 0 (.inr (adv B N p, a)) := by
        have h9 : sMst B N (sW B N p wPlayer) (.inr (p, a)) = .inr (sSk B N (sEd B N p), a) := if_pos hip
        rw [h9, sEd_w (sW_kd zN_Player hip)] at r1; exact r1
      have hS : sPl1 B N p a = zBind (sName B N (adv B N p) (aAddP a) (a 2)) fun p a' => sParts B N p a' (a 2) := by unfold sPl1; rw [if_neg (fun z => z hip), if_neg (by omega)]
      rw [hS] at hq
      generalize adv B N p = p1 at r1 hq hS
      obtain ⟨⟨t1, t2, t3⟩, t4, t5⟩ : zGd W1 B N p1 ∧ zRw W1 0 a ∧ zPs a := id r1
      obtain ⟨n10, npN, n11, n12, n13⟩ := id t2
      have hed1 := sEd_rng (B := B) npN
      have hkd1 := @sKd_rng B N p1
      refine rr_aload_n (pc := 38) dX7_readsPlayer_38 rfl ?_
      refine rr_getI (pc := 39) (ji := 14) dX7_readsPlayer_39 fX7_113 zk_116 zr_116_14 rfl ?_
      rw [t3]
      refine rr_if_ne (pc := 42) (tgt := 72) dX7_readsPlayer_42 (by decide) (by unfold zR; omega) (fun h42 => ?_) (fun h42 => ?_)
      · exact absurd rfl h42
      · refine rr_aload_n (pc := 45) dX7_readsPlayer_45 rfl ?_
        refine rr_getI (pc := 46) (ji := 12) dX7_readsPlayer_46 fX7_97 zk_116 zr_116_12 rfl ?_
        rw [n12]
        refine rr_if_ne (pc := 49) (tgt := 66) dX7_readsPlayer_49 (by decide) (by unfold zR; omega) (fun h49 => ?_) (fun h49 => ?_)
        · refine rr_aload_n (pc := 66) dX7_readsPlayer_66 rfl ?_
          refine rr_bipush (n := (-2)) dX7_readsPlayer_67 ?_
          refine rr_inv0 (M' := MX7_fails) (k := 116) (As := [_]) (pc := 69) dX7_readsPlayer_69 lX7_129 kX7_fails vX7_fails zk_116 (by decide) rfl (by decide) (by decide) (Nat.le_of_ble_eq_true rfl) rfl (eX7_failsG r1 (by decide) (by decide) (fun W2 o2 r2 => ?_))
          exact eX7_rpOut0 r2 (by unfold zR; omega) (hq W2 (o1.tr o2.R) (by rw [show sName B N p1 (aAddP a) (a 2) = .inl (-2, p1) from if_pos (Or.inl (sRun_n (fun z => h49 (sKd_0.mpr z))))]; exact r2))
        · refine rr_aload_n (pc := 52) dX7_readsPlayer_52 rfl ?_
          have hed2 := sEd_w h49
          refine rr_getI (pc := 53) (ji := 11) dX7_readsPlayer_53 fX7_88 zk_116 zr_116_11 rfl ?_
          rw [n11]
          refine rr_aload_n (pc := 56) dX7_readsPlayer_56 rfl ?_
          refine rr_getI (pc := 57) (ji := 10) dX7_readsPlayer_57 fX7_91 zk_116 zr_116_10 rfl ?_
          rw [n10]
          refine rr_isub (pc := 60) dX7_readsPlayer_60 ?_
          refine rr_bipush (n := (8)) dX7_readsPlayer_61 ?_
          refine rr_icmp_le (pc := 63) (tgt := 72) dX7_readsPlayer_63 (by decide) (by unfold zR; omega) (by unfold zR; omega) (fun h63 => ?_) (fun h63 => ?_)
          · exact eX7_rpTw r1 rfl p2 (by omega) h1a h49 (by omega) (fun W3 o3 r3 => hq W3 (o1.tr o3) r3)
          · refine rr_aload_n (pc := 66) dX7_readsPlayer_66 rfl ?_
            refine rr_bipush (n := (-2)) dX7_readsPlayer_67 ?_
            refine rr_inv0 (M' := MX7_fails) (k := 116) (As := [_]) (pc := 69) dX7_readsPlayer_69 lX7_129 kX7_fails vX7_fails zk_116 (by decide) rfl (by decide) (by decide) (Nat.le_of_ble_eq_true rfl) rfl (eX7_failsG r1 (by decide) (by decide) (fun W2 o2 r2 => ?_))
            exact eX7_rpOut0 r2 (by unfold zR; omega) (hq W2 (o1.tr o2.R) (by rw [show sName B N p1 (aAddP a) (a 2) = .inl (-2, p1) from if_pos (Or.inr (by omega))]; exact r2))
    · refine rr_aload_n (pc := 22) dX7_readsPlayer_22 rfl ?_
      refine rr_bipush (n := (-5)) dX7_readsPlayer_23 ?_
      have hip := z_i10n h13
      have hS : sPl1 B N p a = .inl (-5, p) := by unfold sPl1; rw [if_neg (fun z => z hip), if_pos (by omega)]
      refine rr_inv0 (M' := MX7_fails) (k := 116) (As := [_]) (pc := 25) dX7_readsPlayer_25 lX7_129 kX7_fails vX7_fails zk_116 (by decide) rfl (by decide) (by decide) (Nat.le_of_ble_eq_true rfl) rfl (eX7_failsG h (by decide) (by decide) (fun W1 o1 r1 => ?_))
      have hb1 : zBd W1 0 (-5) p := r1
      refine rr_aload_n (pc := 28) dX7_readsPlayer_28 rfl ?_
      refine rr_aload_n (pc := 29) dX7_readsPlayer_29 rfl ?_
      refine rr_ldcs (pc := 30) 15 dX7_readsPlayer_30 rfl ?_
      refine rr_inv0 (M' := MX7_isWord) (k := 116) (As := [_]) (pc := 32) dX7_readsPlayer_32 lX7_138 kX7_isWord vX7_isWord zk_116 (by decide) rfl (by decide) (by decide) (Nat.le_of_ble_eq_true rfl) rfl (eWB hb1 (by decide) ?_)
      refine rr_inv0 (M' := MX7_must) (k := 116) (As := [_]) (pc := 35) dX7_readsPlayer_35 lX7_150 kX7_must vX7_must zk_116 (by decide) rfl (by decide) (by decide) (Nat.le_of_ble_eq_true rfl) rfl (eX7_mustB hb1 (by unfold zR; omega) ?_)
      refine rr_aload_n (pc := 38) dX7_readsPlayer_38 rfl ?_
      refine rr_getI (pc := 39) (ji := 14) dX7_readsPlayer_39 fX7_113 zk_116 zr_116_14 rfl ?_
      refine rr_if_ne (pc := 42) (tgt := 72) dX7_readsPlayer_42 (by decide) hb1.z.1 (fun h42 => ?_) (fun h42 => ?_)
      · exact eX7_rpOut0 hb1 (by unfold zR; omega) (hq W1 o1.R (by rw [hS]; exact r1))
      · exact absurd h42 hb1.z.2
theorem eX7_readsPlayerB {W : zWd} {c : Int} {p : Nat} {Q : Option Value → zWd → Prop} {X : zX} (h : zBd W 0 c p) (hq : Q none W) : Ev MX7_readsPlayer 7 0 W [.ref 116] Q X := by
  refine ev_of (ls := [.ref 116, .null, .null]) (by decide) rfl (fun _ => rfl) (fun _ => Nat.le_of_ble_eq_true rfl) (Or.inl rfl) ?_

  refine rr_aload_n (pc := 0) dX7_readsPlayer_0 rfl ?_
  refine rr_getR (pc := 1) dX7_readsPlayer_1 fX7_7 zk_116 zr_116_0 ?_
  refine rr_iconst (n := 2) dX7_readsPlayer_4 ?_
  refine rr_iald (pc := 5) dX7_readsPlayer_5 zk_117 (by omega) (by omega) ?_
  refine rr_istore_n (pc := 6) dX7_readsPlayer_6 (by decide) ?_
  refine rr_aload_n (pc := 7) dX7_readsPlayer_7 rfl ?_
  refine rr_ldcs (pc := 8) 15 dX7_readsPlayer_8 rfl ?_
  refine rr_inv0 (M' := MX7_isWord) (k := 116) (As := [_]) (pc := 10) dX7_readsPlayer_10 lX7_138 kX7_isWord vX7_isWord zk_116 (by decide) rfl (by decide) (by decide) (Nat.le_of_ble_eq_true rfl) rfl (eWB h (by decide) ?_)
  refine rr_if_eq (pc := 13) (tgt := 28) dX7_readsPlayer_13 (by decide) (by unfold zR; omega) (fun h13 => ?_) (fun h13 => ?_)
  · refine rr_aload_n (pc := 28) dX7_readsPlayer_28 rfl ?_
    refine rr_aload_n (pc := 29) dX7_readsPlayer_29 rfl ?_
    refine rr_ldcs (pc := 30) 15 dX7_readsPlayer_30 rfl ?_
    refine rr_inv0 (M' := MX7_isWord) (k := 116) (As := [_]) (pc := 32) dX7_readsPlayer_32 lX7_138 kX7_isWord vX7_isWord zk_116 (by decide) rfl (by decide) (by decide) (Nat.le_of_ble_eq_true rfl) rfl (eWB h (by decide) ?_)
    refine rr_inv0 (M' := MX7_must) (k := 116) (As := [_]) (pc := 35) dX7_readsPlayer_35 lX7_150 kX7_must vX7_must zk_116 (by decide) rfl (by decide) (by decide) (Nat.le_of_ble_eq_true rfl) rfl (eX7_mustB h (by unfold zR; omega) ?_)
    refine rr_aload_n (pc := 38) dX7_readsPlayer_38 rfl ?_
    refine rr_getI (pc := 39) (ji := 14) dX7_readsPlayer_39 fX7_113 zk_116 zr_116_14 rfl ?_
    refine rr_if_ne (pc := 42) (tgt := 72) dX7_readsPlayer_42 (by decide) h.z.1 (fun h42 => ?_) (fun h42 => ?_)
    · exact eX7_rpOut0 h (by have := h.2.2.2.2.2; unfold zR; omega) hq
    · exact absurd h42 h.z.2
  · exact (h13 rfl).elim
theorem eX7_readsPlayer {W : zWd} {B : Nat → Int} {N : Nat} {r : zRs} {Q : Option Value → zWd → Prop} {X : zX} (h : zMR W B N 0 r) (h1a : ∀ g, r = .inr g → 1 ≤ g.2 1) (hq : ∀ W' : zWd, zOfR W W' → zMR W' B N 0 (zBind r (sPl1 B N)) → Q none W') : Ev MX7_readsPlayer 7 0 W [.ref 116] Q X := by
  cases r with
  | inl e => exact eX7_readsPlayerB h (hq W zOfR.rf h)
  | inr g => exact eX7_readsPlayerG (p := g.1) (a := g.2) h (h1a g rfl) hq
