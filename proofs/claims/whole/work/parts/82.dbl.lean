/-! doubles and floats -/
section ZDB
variable {M : zM} {d t : Nat} {W₀ : zWd} {pc : Nat} {ls st : List Value} {K : zK} {X : zX}
theorem rr_i2d {x : Int} (hd : decode M.2.1 pc = .ok (.i2d, 1)) (k : RR M d t W₀ (pc + 1) ls (.double (FP.i2d (Int32.ofInt x)) :: st) K X) : RR M d t W₀ pc ls (zI x :: st) K X := by
  intro p l e R s m args below meth c cells slots Q D Y ad A hC hK hX H locs lsA hP hS hl
  exact lv_i2d hC.1.1 hC.1.2.1 hd (k p l e R s m args below meth c cells slots Q D Y ad A hC hK hX H locs lsA hP hS hl)
theorem rr_i2f {x : Int} (hd : decode M.2.1 pc = .ok (.i2f, 1)) (k : RR M d t W₀ (pc + 1) ls (.float (FP.i2f (Int32.ofInt x)) :: st) K X) : RR M d t W₀ pc ls (zI x :: st) K X := by
  intro p l e R s m args below meth c cells slots Q D Y ad A hC hK hX H locs lsA hP hS hl
  exact lv_i2f hC.1.1 hC.1.2.1 hd (k p l e R s m args below meth c cells slots Q D Y ad A hC hK hX H locs lsA hP hS hl)
theorem rr_ddiv {x y : UInt64} (hd : decode M.2.1 pc = .ok (.ddiv, 1)) (hn : vf_n64 (FP.ddiv x y)) (k : RR M d t W₀ (pc + 1) ls (.double (FP.ddiv x y) :: st) K X) : RR M d t W₀ pc ls (.double y :: .double x :: st) K X := by
  intro p l e R s m args below meth c cells slots Q D Y ad A hC hK hX H locs lsA hP hS hl
  exact lv_ddiv hC.1.1 hC.1.2.1 hd hn (k p l e R s m args below meth c cells slots Q D Y ad A hC hK hX H locs lsA hP hS hl)
theorem rr_fdiv {x y : UInt32} (hd : decode M.2.1 pc = .ok (.fdiv, 1)) (hn : vf_n32 (FP.fdiv x y)) (k : RR M d t W₀ (pc + 1) ls (.float (FP.fdiv x y) :: st) K X) : RR M d t W₀ pc ls (.float y :: .float x :: st) K X := by
  intro p l e R s m args below meth c cells slots Q D Y ad A hC hK hX H locs lsA hP hS hl
  exact lv_fdiv hC.1.1 hC.1.2.1 hd hn (k p l e R s m args below meth c cells slots Q D Y ad A hC hK hX H locs lsA hP hS hl)
theorem rr_dconst0 (hd : decode M.2.1 pc = .ok (.dconst 0, 1)) (k : RR M d t W₀ (pc + 1) ls (.double FP.dconst0 :: st) K X) : RR M d t W₀ pc ls st K X := by
  intro p l e R s m args below meth c cells slots Q D Y ad A hC hK hX H locs lsA hP hS hl
  exact lv_dconst0 hC.1.1 hC.1.2.1 hd (k p l e R s m args below meth c cells slots Q D Y ad A hC hK hX H locs lsA hP hS hl)
theorem rr_fconst0 (hd : decode M.2.1 pc = .ok (.fconst 0, 1)) (k : RR M d t W₀ (pc + 1) ls (.float FP.fconst0 :: st) K X) : RR M d t W₀ pc ls st K X := by
  intro p l e R s m args below meth c cells slots Q D Y ad A hC hK hX H locs lsA hP hS hl
  exact lv_fconst0 hC.1.1 hC.1.2.1 hd (k p l e R s m args below meth c cells slots Q D Y ad A hC hK hX H locs lsA hP hS hl)
end ZDB
/-- the ends of a method of doubles or floats -/
def zEndD (M : zM) (Q : Option Value → zWd → Prop) (X : zX) : zK := fun _ pc _ st W' =>
  (∃ x : UInt64, M.2.2.2.2 = some .double ∧ decode M.2.1 pc = .ok (.dreturn, 1) ∧ st = [.double x] ∧ Q (some (.double x)) W') ∨
  (∃ x : UInt32, M.2.2.2.2 = some .float ∧ decode M.2.1 pc = .ok (.freturn, 1) ∧ st = [.float x] ∧ Q (some (.float x)) W')
theorem rr_retd {M : zM} {d t : Nat} {W₀ : zWd} {pc : Nat} {ls : List Value} {Q : Option Value → zWd → Prop} {X : zX} {x : UInt64} (hd : decode M.2.1 pc = .ok (.dreturn, 1)) (hr : M.2.2.2.2 = some .double) (h : Q (some (.double x)) W₀) : RR M d t W₀ pc ls [.double x] (zEndD M Q X) X := rr_base (Or.inl ⟨x, hr, hd, rfl, h⟩)
theorem rr_retf {M : zM} {d t : Nat} {W₀ : zWd} {pc : Nat} {ls : List Value} {Q : Option Value → zWd → Prop} {X : zX} {x : UInt32} (hd : decode M.2.1 pc = .ok (.freturn, 1)) (hr : M.2.2.2.2 = some .float) (h : Q (some (.float x)) W₀) : RR M d t W₀ pc ls [.float x] (zEndD M Q X) X := rr_base (Or.inr ⟨x, hr, hd, rfl, h⟩)
set_option maxHeartbeats 1000000 in
theorem ev_ofD {M : zM} {d t : Nat} {W₀ : zWd} {args ls : List Value} {Q : Option Value → zWd → Prop} {X : zX} (hy : plainName M.2.2.2.1.cls = true) (hy2 : M.1 = M.2.2.2.1.cls) (hl0 : ∀ ad, lv_args 0 (zts ad args) = zl ad 0 ls) (hn : ∀ ad, (lg_sl (zts ad args)).length ≤ M.2.2.1) (hd : t = 0 ∨ 7 ≤ d)
    (h : RR M d t W₀ 0 ls [] (zEndD M Q X) X) : Ev M d t W₀ args Q X := by
  intro l D Y ad A hst hAd
  refine vx_ofW (cc := M.2.1) (maxL := M.2.2.1) (ret := M.2.2.2.2) hy rfl ?_
  intro p e s m a below meth c s₁ B hml hh hv
  obtain ⟨rfl, hP, hE, hA⟩ := hv
  have hts := atoms_spec (ws := zwM M) B.pre
  have hown : s.vm.findClass M.1 = some m.cls := by rw [hy2]; exact findClass_of_methodNamed B.named
  have hlocks := B.notSynchronized
  have hx := B.exec
  have hb := B.bytes
  have hC : zC M d t p l (headSpec (zwM M) (zRm d t)).room s m (zts ad args).toArray meth c 0 0 D Y ad A :=
    ⟨⟨hx, hb, hml, hown, hts⟩, hst, hlocks, hh, B.returns, hE, hAd, hA, Nat.le_refl _, Nat.le_refl _, by show 0 + t ≤ t; omega, by show 0 + 6 * t ≤ 6 * t; omega⟩
  have hl := lv_entry (zts ad args) (n := M.2.2.1) (hn ad)
  rw [hl0 ad] at hl
  rw [lg_entry_eq]
  refine h p l e _ s m (zts ad args).toArray below meth c 0 0 _ D Y ad A hC ?_ ?_ s.heap [] _ hP va_S.rf hl
  · intro t' pc' ls' st' W' H' locs' lsA' cells' slots' hk hP' hS' hl' hc' hs'
    rcases hk with ⟨x, hr, hdg, rfl, hq⟩ | ⟨x, hr, hdg, rfl, hq⟩
    · refine W.widen (k := t) (n := 6 * t) (by omega) (by omega) (vx_ret ?_)
      exact W.dret hx hb (B.returns.trans hr) (fun tt htt hW => ⟨⟨some (.double x), W', rfl, hq, by rw [htt]; exact hP'⟩, hS'.F htt⟩) hS'.2.2 hdg hlocks
    · refine W.widen (k := t) (n := 6 * t) (by omega) (by omega) (vx_ret ?_)
      exact W.fret hx hb (B.returns.trans hr) (fun tt htt hW => ⟨⟨some (.float x), W', rfl, hq, by rw [htt]; exact hP'⟩, hS'.F htt⟩) hS'.2.2 hdg hlocks
  · intro E pc' st' W' H' locs' lsA' cells' slots' ce q hXE hP' hS' hc' hs' hce hcv hcl
    exact vx_out (fun x hx => (hh x hx).elim) hlocks hce hcv hcl (fun tt htt hal => ⟨⟨W', hXE, by rw [htt]; exact hP'⟩, hS'.F htt⟩) hS'.2.2 (by omega) (by omega)
/-! the mean cost, the success -/
def vMc (a : Int → Int) : Nat → Int
  | 0 => 0
  | n + 1 => vMc a n + (if aHopF a n = 0 then 1 else 0)
def vMs (a : Int → Int) : Nat → Int
  | 0 => 0
  | n + 1 => vMs a n + (if aHopF a n = 0 then aCost a n (aP a n 2) (aRc a n) 0 + aCost a n (aP a n 2) (aRc a n) 1 else 0)
theorem vMc_le (a : Int → Int) : ∀ n : Nat, 0 ≤ vMc a n ∧ vMc a n ≤ n := by
  intro n
  induction n with
  | zero => exact ⟨Int.le_refl _, Int.le_refl _⟩
  | succ n ih =>
    unfold vMc
    split <;> omega
theorem vMc_s {a : Int → Int} {i : Int} (h : 0 ≤ i) : vMc a (i + 1).toNat = vMc a i.toNat + (if aHopF a i = 0 then 1 else 0) := by
  rw [show (i + 1).toNat = i.toNat + 1 by omega]
  show vMc a i.toNat + (if aHopF a (i.toNat : Int) = 0 then 1 else 0) = _
  rw [Int.toNat_of_nonneg h]
theorem vMs_s {a : Int → Int} {i : Int} (h : 0 ≤ i) : vMs a (i + 1).toNat = vMs a i.toNat + (if aHopF a i = 0 then aCost a i (aP a i 2) (aRc a i) 0 + aCost a i (aP a i 2) (aRc a i) 1 else 0) := by
  rw [show (i + 1).toNat = i.toNat + 1 by omega]
  show vMs a i.toNat + (if aHopF a (i.toNat : Int) = 0 then aCost a (i.toNat : Int) (aP a (i.toNat : Int) 2) (aRc a (i.toNat : Int)) 0 + aCost a (i.toNat : Int) (aP a (i.toNat : Int) 2) (aRc a (i.toNat : Int)) 1 else 0) = _
  rw [Int.toNat_of_nonneg h]
def vMean (a : Int → Int) : UInt64 := if vMc a (a 2).toNat = 0 then FP.dconst0 else FP.ddiv (FP.i2d (Int32.ofInt (vMs a (a 2).toNat))) (FP.i2d (Int32.ofInt (vMc a (a 2).toNat)))
def vSucc (a : Int → Int) : UInt32 := if a 5 = 0 then FP.fconst0 else FP.fdiv (FP.i2f (Int32.ofInt (a 7))) (FP.i2f (Int32.ofInt (a 5)))
/-- what the library says of whole numbers' quotients: no NaN -/
def zNN : Prop := (∀ x y : Int32, y ≠ 0 → vf_n64 (FP.ddiv (FP.i2d x) (FP.i2d y))) ∧ (∀ x y : Int32, y ≠ 0 → vf_n32 (FP.fdiv (FP.i2f x) (FP.i2f y))) ∧ (∀ x : UInt32, vf_n32 x → vf_n64 (FP.f2d x)) ∧ ∀ x : UInt64, vf_n64 x → FP.dcmp x x = some .eq
theorem z_nz {x : Int} (hr : zR x) (h : x ≠ 0) : Int32.ofInt x ≠ 0 := fun z => h ((zR_eq hr zR_zero).mp (z.trans z_ofInt0.symm))
theorem vMean_n {a : Int → Int} (hN : zNN) (h6 : a 2 ≤ 6) : vf_n64 (vMean a) := by
  unfold vMean
  by_cases z : vMc a (a 2).toNat = 0
  · rw [if_pos z]; unfold vf_n64; decide
  · rw [if_neg z]
    have := vMc_le a (a 2).toNat
    exact hN.1 _ _ (z_nz (by unfold zR; omega) z)
theorem vSucc_n {a : Int → Int} (hN : zNN) (h5 : zR (a 5)) : vf_n32 (vSucc a) := by
  unfold vSucc
  by_cases z : a 5 = 0
  · rw [if_pos z]; unfold vf_n32; decide
  · rw [if_neg z]; exact hN.2.1 _ _ (z_nz h5 z)
theorem dX6_meanCost_0 : decode cX6_meanCost 0 = .ok (.iconst 0, 1) := by decide +kernel
theorem dX6_meanCost_1 : decode cX6_meanCost 1 = .ok (.istore_n 1, 1) := by decide +kernel
theorem dX6_meanCost_2 : decode cX6_meanCost 2 = .ok (.iconst 0, 1) := by decide +kernel
theorem dX6_meanCost_3 : decode cX6_meanCost 3 = .ok (.istore_n 2, 1) := by decide +kernel
theorem dX6_meanCost_4 : decode cX6_meanCost 4 = .ok (.iconst 0, 1) := by decide +kernel
theorem dX6_meanCost_5 : decode cX6_meanCost 5 = .ok (.istore_n 3, 1) := by decide +kernel
theorem dX6_meanCost_6 : decode cX6_meanCost 6 = .ok (.iload_n 3, 1) := by decide +kernel
theorem dX6_meanCost_7 : decode cX6_meanCost 7 = .ok (.aload_n 0, 1) := by decide +kernel
theorem dX6_meanCost_8 : decode cX6_meanCost 8 = .ok (.getfield 12, 3) := by decide +kernel
theorem dX6_meanCost_11 : decode cX6_meanCost 11 = .ok (.getfield 106, 3) := by decide +kernel
theorem dX6_meanCost_14 : decode cX6_meanCost 14 = .ok (.if_icmp .ge 51, 3) := by decide +kernel
theorem dX6_meanCost_17 : decode cX6_meanCost 17 = .ok (.aload_n 0, 1) := by decide +kernel
theorem dX6_meanCost_18 : decode cX6_meanCost 18 = .ok (.getfield 22, 3) := by decide +kernel
theorem dX6_meanCost_21 : decode cX6_meanCost 21 = .ok (.aload_n 0, 1) := by decide +kernel
theorem dX6_meanCost_22 : decode cX6_meanCost 22 = .ok (.getfield 12, 3) := by decide +kernel
theorem dX6_meanCost_25 : decode cX6_meanCost 25 = .ok (.iload_n 3, 1) := by decide +kernel
theorem dX6_meanCost_26 : decode cX6_meanCost 26 = .ok (.invokevirtual 201, 3) := by decide +kernel
theorem dX6_meanCost_29 : decode cX6_meanCost 29 = .ok (.ifCond .ne 30, 3) := by decide +kernel
theorem dX6_meanCost_32 : decode cX6_meanCost 32 = .ok (.iload_n 1, 1) := by decide +kernel
theorem dX6_meanCost_33 : decode cX6_meanCost 33 = .ok (.aload_n 0, 1) := by decide +kernel
theorem dX6_meanCost_34 : decode cX6_meanCost 34 = .ok (.getfield 22, 3) := by decide +kernel
theorem dX6_meanCost_37 : decode cX6_meanCost 37 = .ok (.getfield 235, 3) := by decide +kernel
theorem dX6_meanCost_40 : decode cX6_meanCost 40 = .ok (.getfield 209, 3) := by decide +kernel
theorem dX6_meanCost_43 : decode cX6_meanCost 43 = .ok (.aload_n 0, 1) := by decide +kernel
theorem dX6_meanCost_44 : decode cX6_meanCost 44 = .ok (.getfield 22, 3) := by decide +kernel
theorem dX6_meanCost_47 : decode cX6_meanCost 47 = .ok (.getfield 239, 3) := by decide +kernel
theorem dX6_meanCost_50 : decode cX6_meanCost 50 = .ok (.getfield 209, 3) := by decide +kernel
theorem dX6_meanCost_53 : decode cX6_meanCost 53 = .ok (.iadd, 1) := by decide +kernel
theorem dX6_meanCost_54 : decode cX6_meanCost 54 = .ok (.iadd, 1) := by decide +kernel
theorem dX6_meanCost_55 : decode cX6_meanCost 55 = .ok (.istore_n 1, 1) := by decide +kernel
theorem dX6_meanCost_56 : decode cX6_meanCost 56 = .ok (.iinc 2 1, 3) := by decide +kernel
theorem dX6_meanCost_59 : decode cX6_meanCost 59 = .ok (.iinc 3 1, 3) := by decide +kernel
theorem dX6_meanCost_62 : decode cX6_meanCost 62 = .ok (.goto (-56), 3) := by decide +kernel
theorem dX6_meanCost_65 : decode cX6_meanCost 65 = .ok (.iload_n 2, 1) := by decide +kernel
theorem dX6_meanCost_66 : decode cX6_meanCost 66 = .ok (.ifCond .ne 7, 3) := by decide +kernel
theorem dX6_meanCost_69 : decode cX6_meanCost 69 = .ok (.dconst 0, 1) := by decide +kernel
theorem dX6_meanCost_70 : decode cX6_meanCost 70 = .ok (.goto 8, 3) := by decide +kernel
theorem dX6_meanCost_73 : decode cX6_meanCost 73 = .ok (.iload_n 1, 1) := by decide +kernel
theorem dX6_meanCost_74 : decode cX6_meanCost 74 = .ok (.i2d, 1) := by decide +kernel
theorem dX6_meanCost_75 : decode cX6_meanCost 75 = .ok (.iload_n 2, 1) := by decide +kernel
theorem dX6_meanCost_76 : decode cX6_meanCost 76 = .ok (.i2d, 1) := by decide +kernel
theorem dX6_meanCost_77 : decode cX6_meanCost 77 = .ok (.ddiv, 1) := by decide +kernel
theorem dX6_meanCost_78 : decode cX6_meanCost 78 = .ok (.dreturn, 1) := by decide +kernel
theorem eX6_meanCost {W : zWd} {a : Int → Int} {T : Int}  {Q : Option Value → zWd → Prop} {X : zX} (hR : zCR W 0 a) (hw : zWf T a) (hg : zGm W) (hN : zNN) (hq : ∀ W' : zWd, zOffg W W' → zGm W' → Q (some (.double (vMean a))) W') : Ev MX6_meanCost 8 0 W [.ref 96] Q X := by
  refine ev_ofD (ls := [.ref 96, .null, .null, .null]) (by decide) rfl (fun _ => rfl) (fun _ => Nat.le_of_ble_eq_true rfl) (Or.inl rfl) ?_
  obtain ⟨r0, r1, r2, r3, r4, r5, r6, r7, rF, rS, rP, rB⟩ := id hR
  obtain ⟨w0, w0', wW, w1, w2, w2', w3, w3', w4, w4', w5, w5', w6, w6', w7, w7', wS, wP, wT⟩ := id hw
  have wq := zWf.sq hw
  refine rr_iconst (n := 0) dX6_meanCost_0 ?_
  refine rr_istore_n (pc := 1) dX6_meanCost_1 (by decide) ?_
  refine rr_iconst (n := 0) dX6_meanCost_2 ?_
  refine rr_istore_n (pc := 3) dX6_meanCost_3 (by decide) ?_
  refine rr_iconst (n := 0) dX6_meanCost_4 ?_
  refine rr_istore_n (pc := 5) dX6_meanCost_5 (by decide) ?_
  have loop : ∀ (n : Nat) (i : Int) (Wi : zWd), 0 ≤ i → i ≤ a 2 → zOffg W Wi → zGm Wi → (a 2 - i).toNat < n → RR MX6_meanCost 8 0 Wi 6 [.ref 96, zI (vMs a i.toNat), zI (vMc a i.toNat), zI i] [] (zEndD MX6_meanCost Q X) X := by
    intro n
    induction n with
    | zero => intro i Wi _ _ _ _ hm9; omega
    | succ n ih =>
      intro i Wi h1 h2 hO hG hm9
      refine rr_iload_n (pc := 6) dX6_meanCost_6 rfl ?_
      refine rr_aload_n (pc := 7) dX6_meanCost_7 rfl ?_
      refine rr_getR (pc := 8) dX6_meanCost_8 fX6_12 zk_96 zr_96_0 ?_
      refine rr_getI (pc := 11) (ji := 2) dX6_meanCost_11 fX6_106 zCt_0.k zCt_0.i2 rfl ?_
      rw [show Wi 0 2 = a 2 from (hR.g zCt_0 hO).2.2.1]
      refine rr_icmp_ge (pc := 14) (tgt := 65) dX6_meanCost_14 (by decide) (by unfold zR; omega) (by unfold zR; omega) (fun h14 => ?_) (fun h14 => ?_)
      · rw [show i = a 2 by omega]
        have hcl := vMc_le a (a 2).toNat
        refine rr_iload_n (pc := 65) dX6_meanCost_65 rfl ?_
        refine rr_if_ne (pc := 66) (tgt := 73) dX6_meanCost_66 (by decide) (by unfold zR; omega) (fun h66 => ?_) (fun h66 => ?_)
        · refine rr_iload_n (pc := 73) dX6_meanCost_73 rfl ?_
          refine rr_i2d (pc := 74) dX6_meanCost_74 ?_
          refine rr_iload_n (pc := 75) dX6_meanCost_75 rfl ?_
          refine rr_i2d (pc := 76) dX6_meanCost_76 ?_
          refine rr_ddiv (pc := 77) dX6_meanCost_77 (hN.1 _ _ (z_nz (by unfold zR; omega) h66)) ?_
          exact rr_retd (pc := 78) dX6_meanCost_78 rfl (by rw [show FP.ddiv (FP.i2d (Int32.ofInt (vMs a (a 2).toNat))) (FP.i2d (Int32.ofInt (vMc a (a 2).toNat))) = vMean a by unfold vMean; rw [if_neg h66]]; exact hq Wi hO hG)
        · refine rr_dconst0 (pc := 69) dX6_meanCost_69 ?_
          refine rr_goto (pc := 70) (tgt := 78) dX6_meanCost_70 (by decide) ?_
          exact rr_retd (pc := 78) dX6_meanCost_78 rfl (by rw [show FP.dconst0 = vMean a by unfold vMean; rw [if_pos h66]]; exact hq Wi hO hG)
      · refine rr_aload_n (pc := 17) dX6_meanCost_17 rfl ?_
        refine rr_getR (pc := 18) dX6_meanCost_18 fX6_22 zk_96 zr_96_2 ?_
        refine rr_aload_n (pc := 21) dX6_meanCost_21 rfl ?_
        refine rr_getR (pc := 22) dX6_meanCost_22 fX6_12 zk_96 zr_96_0 ?_
        refine rr_iload_n (pc := 25) dX6_meanCost_25 rfl ?_
        refine rr_invN (M' := MX1_faultOfHops) (k := 97) (As := [_, _]) (pc := 26) dX6_meanCost_26 lX6_201 kX1_faultOfHops vX1_faultOfHops zk_97 (by decide) rfl (by decide) (by decide) (Nat.le_of_ble_eq_true rfl) rfl (eX1_faultOfHops zCt_0 (hR.g zCt_0 hO) hw hG h1 (by omega) (fun W1 o1 g1 l1 => ?_))
        refine rr_if_ne (pc := 29) (tgt := 59) dX6_meanCost_29 (by decide) (by have := @aHopF_R a i; unfold zR; omega) (fun h29 => ?_) (fun h29 => ?_)
        · refine rr_iinc (pc := 59) dX6_meanCost_59 rfl (by decide) ?_
          refine rr_goto (pc := 62) (tgt := 6) dX6_meanCost_62 (by decide) ?_
          rw [show vMs a i.toNat = vMs a (i + 1).toNat by rw [vMs_s h1, if_neg h29]; omega, show vMc a i.toNat = vMc a (i + 1).toNat by rw [vMc_s h1, if_neg h29]; omega]
          exact ih (i + 1) W1 (by omega) (by omega) (hO.tr o1) g1 (by omega)
        · refine rr_iload_n (pc := 32) dX6_meanCost_32 rfl ?_
          refine rr_aload_n (pc := 33) dX6_meanCost_33 rfl ?_
          refine rr_getR (pc := 34) dX6_meanCost_34 fX6_22 zk_96 zr_96_2 ?_
          refine rr_getR (pc := 37) dX6_meanCost_37 fX6_235 zk_97 zr_97_0 ?_
          refine rr_getI (pc := 40) (ji := 1) dX6_meanCost_40 fX6_209 zk_98 zr_98_1 rfl ?_
          rw [(l1 h29).1.1]
          refine rr_aload_n (pc := 43) dX6_meanCost_43 rfl ?_
          refine rr_getR (pc := 44) dX6_meanCost_44 fX6_22 zk_96 zr_96_2 ?_
          refine rr_getR (pc := 47) dX6_meanCost_47 fX6_239 zk_97 zr_97_1 ?_
          refine rr_getI (pc := 50) (ji := 1) dX6_meanCost_50 fX6_209 zk_103 zr_103_1 rfl ?_
          rw [(l1 h29).2.1]
          refine rr_iadd (pc := 53) dX6_meanCost_53 ?_
          refine rr_iadd (pc := 54) dX6_meanCost_54 ?_
          refine rr_istore_n (pc := 55) dX6_meanCost_55 (by decide) ?_
          refine rr_iinc (pc := 56) dX6_meanCost_56 rfl (by decide) ?_
          refine rr_iinc (pc := 59) dX6_meanCost_59 rfl (by decide) ?_
          refine rr_goto (pc := 62) (tgt := 6) dX6_meanCost_62 (by decide) ?_
          rw [show vMs a i.toNat + (aCost a i (aP a i 2) (aRc a i) 0 + aCost a i (aP a i 2) (aRc a i) 1) = vMs a (i + 1).toNat by rw [vMs_s h1, if_pos h29], show vMc a i.toNat + 1 = vMc a (i + 1).toNat by rw [vMc_s h1, if_pos h29]]
          exact ih (i + 1) W1 (by omega) (by omega) (hO.tr o1) g1 (by omega)
  exact loop _ 0 W (by omega) (by omega) zOffg.rf hg (Nat.lt_succ_self _)
theorem dX6_success_0 : decode cX6_success 0 = .ok (.aload_n 0, 1) := by decide +kernel
theorem dX6_success_1 : decode cX6_success 1 = .ok (.getfield 12, 3) := by decide +kernel
theorem dX6_success_4 : decode cX6_success 4 = .ok (.getfield 115, 3) := by decide +kernel
theorem dX6_success_7 : decode cX6_success 7 = .ok (.ifCond .ne 7, 3) := by decide +kernel
theorem dX6_success_10 : decode cX6_success 10 = .ok (.fconst 0, 1) := by decide +kernel
theorem dX6_success_11 : decode cX6_success 11 = .ok (.goto 20, 3) := by decide +kernel
theorem dX6_success_14 : decode cX6_success 14 = .ok (.aload_n 0, 1) := by decide +kernel
theorem dX6_success_15 : decode cX6_success 15 = .ok (.getfield 12, 3) := by decide +kernel
theorem dX6_success_18 : decode cX6_success 18 = .ok (.getfield 128, 3) := by decide +kernel
theorem dX6_success_21 : decode cX6_success 21 = .ok (.i2f, 1) := by decide +kernel
theorem dX6_success_22 : decode cX6_success 22 = .ok (.aload_n 0, 1) := by decide +kernel
theorem dX6_success_23 : decode cX6_success 23 = .ok (.getfield 12, 3) := by decide +kernel
theorem dX6_success_26 : decode cX6_success 26 = .ok (.getfield 115, 3) := by decide +kernel
theorem dX6_success_29 : decode cX6_success 29 = .ok (.i2f, 1) := by decide +kernel
theorem dX6_success_30 : decode cX6_success 30 = .ok (.fdiv, 1) := by decide +kernel
theorem dX6_success_31 : decode cX6_success 31 = .ok (.freturn, 1) := by decide +kernel
theorem eX6_success {W : zWd} {a : Int → Int} {T : Int}  {Q : Option Value → zWd → Prop} {X : zX} (hR : zCR W 0 a) (hw : zWf T a) (hN : zNN) (h5 : zR (a 5)) (hq : Q (some (.float (vSucc a))) W) : Ev MX6_success 0 0 W [.ref 96] Q X := by
  refine ev_ofD (ls := [.ref 96]) (by decide) rfl (fun _ => rfl) (fun _ => Nat.le_of_ble_eq_true rfl) (Or.inl rfl) ?_
  obtain ⟨r0, r1, r2, r3, r4, r5, r6, r7, rF, rS, rP, rB⟩ := id hR
  obtain ⟨w0, w0', wW, w1, w2, w2', w3, w3', w4, w4', w5, w5', w6, w6', w7, w7', wS, wP, wT⟩ := id hw
  have wq := zWf.sq hw
  refine rr_aload_n (pc := 0) dX6_success_0 rfl ?_
  refine rr_getR (pc := 1) dX6_success_1 fX6_12 zk_96 zr_96_0 ?_
  refine rr_getI (pc := 4) (ji := 5) dX6_success_4 fX6_115 zCt_0.k zCt_0.i5 rfl ?_
  rw [show W 0 5 = a 5 from r5]
  refine rr_if_ne (pc := 7) (tgt := 14) dX6_success_7 (by decide) h5 (fun h7 => ?_) (fun h7 => ?_)
  · refine rr_aload_n (pc := 14) dX6_success_14 rfl ?_
    refine rr_getR (pc := 15) dX6_success_15 fX6_12 zk_96 zr_96_0 ?_
    refine rr_getI (pc := 18) (ji := 7) dX6_success_18 fX6_128 zCt_0.k zCt_0.i7 rfl ?_
    rw [show W 0 7 = a 7 from r7]
    refine rr_i2f (pc := 21) dX6_success_21 ?_
    refine rr_aload_n (pc := 22) dX6_success_22 rfl ?_
    refine rr_getR (pc := 23) dX6_success_23 fX6_12 zk_96 zr_96_0 ?_
    refine rr_getI (pc := 26) (ji := 5) dX6_success_26 fX6_115 zCt_0.k zCt_0.i5 rfl ?_
    rw [show W 0 5 = a 5 from r5]
    refine rr_i2f (pc := 29) dX6_success_29 ?_
    refine rr_fdiv (pc := 30) dX6_success_30 (hN.2.1 _ _ (z_nz h5 h7)) ?_
    exact rr_retf (pc := 31) dX6_success_31 rfl (by rw [show FP.fdiv (FP.i2f (Int32.ofInt (a 7))) (FP.i2f (Int32.ofInt (a 5))) = vSucc a by unfold vSucc; rw [if_neg h7]]; exact hq)
  · refine rr_fconst0 (pc := 10) dX6_success_10 ?_
    refine rr_goto (pc := 11) (tgt := 31) dX6_success_11 (by decide) ?_
    exact rr_retf (pc := 31) dX6_success_31 rfl (by rw [show FP.fconst0 = vSucc a by unfold vSucc; rw [if_pos h7]]; exact hq)
theorem dX7_meanCost_0 : decode cX7_meanCost 0 = .ok (.aload_n 0, 1) := by decide +kernel
theorem dX7_meanCost_1 : decode cX7_meanCost 1 = .ok (.iconst 0, 1) := by decide +kernel
theorem dX7_meanCost_2 : decode cX7_meanCost 2 = .ok (.putfield 59, 3) := by decide +kernel
theorem dX7_meanCost_5 : decode cX7_meanCost 5 = .ok (.iconst 0, 1) := by decide +kernel
theorem dX7_meanCost_6 : decode cX7_meanCost 6 = .ok (.istore_n 1, 1) := by decide +kernel
theorem dX7_meanCost_7 : decode cX7_meanCost 7 = .ok (.iconst 0, 1) := by decide +kernel
theorem dX7_meanCost_8 : decode cX7_meanCost 8 = .ok (.istore_n 2, 1) := by decide +kernel
theorem dX7_meanCost_9 : decode cX7_meanCost 9 = .ok (.iconst 0, 1) := by decide +kernel
theorem dX7_meanCost_10 : decode cX7_meanCost 10 = .ok (.istore_n 3, 1) := by decide +kernel
theorem dX7_meanCost_11 : decode cX7_meanCost 11 = .ok (.iload_n 3, 1) := by decide +kernel
theorem dX7_meanCost_12 : decode cX7_meanCost 12 = .ok (.aload_n 0, 1) := by decide +kernel
theorem dX7_meanCost_13 : decode cX7_meanCost 13 = .ok (.invokevirtual 203, 3) := by decide +kernel
theorem dX7_meanCost_16 : decode cX7_meanCost 16 = .ok (.if_icmp .ge 41, 3) := by decide +kernel
theorem dX7_meanCost_19 : decode cX7_meanCost 19 = .ok (.aload_n 0, 1) := by decide +kernel
theorem dX7_meanCost_20 : decode cX7_meanCost 20 = .ok (.iload_n 3, 1) := by decide +kernel
theorem dX7_meanCost_21 : decode cX7_meanCost 21 = .ok (.invokevirtual 306, 3) := by decide +kernel
theorem dX7_meanCost_24 : decode cX7_meanCost 24 = .ok (.ifCond .eq 6, 3) := by decide +kernel
theorem dX7_meanCost_27 : decode cX7_meanCost 27 = .ok (.goto 24, 3) := by decide +kernel
theorem dX7_meanCost_30 : decode cX7_meanCost 30 = .ok (.iinc 1 1, 3) := by decide +kernel
theorem dX7_meanCost_33 : decode cX7_meanCost 33 = .ok (.iload_n 2, 1) := by decide +kernel
theorem dX7_meanCost_34 : decode cX7_meanCost 34 = .ok (.aload_n 0, 1) := by decide +kernel
theorem dX7_meanCost_35 : decode cX7_meanCost 35 = .ok (.iload_n 3, 1) := by decide +kernel
theorem dX7_meanCost_36 : decode cX7_meanCost 36 = .ok (.iconst 0, 1) := by decide +kernel
theorem dX7_meanCost_37 : decode cX7_meanCost 37 = .ok (.invokevirtual 309, 3) := by decide +kernel
theorem dX7_meanCost_40 : decode cX7_meanCost 40 = .ok (.iadd, 1) := by decide +kernel
theorem dX7_meanCost_41 : decode cX7_meanCost 41 = .ok (.istore_n 2, 1) := by decide +kernel
theorem dX7_meanCost_42 : decode cX7_meanCost 42 = .ok (.iload_n 2, 1) := by decide +kernel
theorem dX7_meanCost_43 : decode cX7_meanCost 43 = .ok (.aload_n 0, 1) := by decide +kernel
theorem dX7_meanCost_44 : decode cX7_meanCost 44 = .ok (.iload_n 3, 1) := by decide +kernel
theorem dX7_meanCost_45 : decode cX7_meanCost 45 = .ok (.iconst 1, 1) := by decide +kernel
theorem dX7_meanCost_46 : decode cX7_meanCost 46 = .ok (.invokevirtual 309, 3) := by decide +kernel
theorem dX7_meanCost_49 : decode cX7_meanCost 49 = .ok (.iadd, 1) := by decide +kernel
theorem dX7_meanCost_50 : decode cX7_meanCost 50 = .ok (.istore_n 2, 1) := by decide +kernel
theorem dX7_meanCost_51 : decode cX7_meanCost 51 = .ok (.iinc 3 1, 3) := by decide +kernel
theorem dX7_meanCost_54 : decode cX7_meanCost 54 = .ok (.goto (-43), 3) := by decide +kernel
theorem dX7_meanCost_57 : decode cX7_meanCost 57 = .ok (.iload_n 1, 1) := by decide +kernel
theorem dX7_meanCost_58 : decode cX7_meanCost 58 = .ok (.ifCond .ne 7, 3) := by decide +kernel
theorem dX7_meanCost_61 : decode cX7_meanCost 61 = .ok (.dconst 0, 1) := by decide +kernel
theorem dX7_meanCost_62 : decode cX7_meanCost 62 = .ok (.goto 8, 3) := by decide +kernel
theorem dX7_meanCost_65 : decode cX7_meanCost 65 = .ok (.iload_n 2, 1) := by decide +kernel
theorem dX7_meanCost_66 : decode cX7_meanCost 66 = .ok (.i2d, 1) := by decide +kernel
theorem dX7_meanCost_67 : decode cX7_meanCost 67 = .ok (.iload_n 1, 1) := by decide +kernel
theorem dX7_meanCost_68 : decode cX7_meanCost 68 = .ok (.i2d, 1) := by decide +kernel
theorem dX7_meanCost_69 : decode cX7_meanCost 69 = .ok (.ddiv, 1) := by decide +kernel
theorem dX7_meanCost_70 : decode cX7_meanCost 70 = .ok (.dreturn, 1) := by decide +kernel
theorem eX7_meanCost {W : zWd} {a : Int → Int} {T : Int}  {Q : Option Value → zWd → Prop} {X : zX} (ha : W 117 = a) (hw : zWf T a) (hN : zNN) (hq : ∀ W' : zWd, zOfQ W W' → W' 116 7 = 0 → Q (some (.double (vMean a))) W') : Ev MX7_meanCost 8 0 W [.ref 116] Q X := by
  refine ev_ofD (ls := [.ref 116, .null, .null, .null]) (by decide) rfl (fun _ => rfl) (fun _ => Nat.le_of_ble_eq_true rfl) (Or.inl rfl) ?_
  obtain ⟨w0, w0', wW, w1, w2, w2', w3, w3', w4, w4', w5, w5', w6, w6', w7, w7', wS, wP, wT⟩ := id hw
  have wq := zWf.sq hw
  have hn2 : a 2 ≤ 6 := w2'
  refine rr_aload_n (pc := 0) dX7_meanCost_0 rfl ?_
  refine rr_iconst (n := 0) dX7_meanCost_1 ?_
  refine rr_put (pc := 2) (ji := 7) dX7_meanCost_2 fX7_59 fp_7_7 zk_116 zr_116_7 rfl ?_
  refine rr_iconst (n := 0) dX7_meanCost_5 ?_
  refine rr_istore_n (pc := 6) dX7_meanCost_6 (by decide) ?_
  refine rr_iconst (n := 0) dX7_meanCost_7 ?_
  refine rr_istore_n (pc := 8) dX7_meanCost_8 (by decide) ?_
  refine rr_iconst (n := 0) dX7_meanCost_9 ?_
  refine rr_istore_n (pc := 10) dX7_meanCost_10 (by decide) ?_
  have loop : ∀ (n : Nat) (i : Int) (Wi : zWd), 0 ≤ i → i ≤ a 2 → zOfQ W Wi → Wi 116 7 = 0 → (a 2 - i).toNat < n → RR MX7_meanCost 8 0 Wi 11 [.ref 116, zI (vMc a i.toNat), zI (vMs a i.toNat), zI i] [] (zEndD MX7_meanCost Q X) X := by
    intro n
    induction n with
    | zero => intro i Wi _ _ _ _ hm9; omega
    | succ n ih =>
      intro i Wi h1 h2 hO hT hm9
      refine rr_iload_n (pc := 11) dX7_meanCost_11 rfl ?_
      refine rr_aload_n (pc := 12) dX7_meanCost_12 rfl ?_
      have ea : Wi 117 = a := hO.a.trans ha
      refine rr_inv0 (M' := MX7_players) (k := 116) (As := []) (pc := 13) dX7_meanCost_13 lX7_203 kX7_players vX7_players zk_116 (by decide) rfl (by decide) (by decide) (Nat.le_of_ble_eq_true rfl) rfl (eX7_players ?_)
      rw [ea]
      refine rr_icmp_ge (pc := 16) (tgt := 57) dX7_meanCost_16 (by decide) (by unfold zR; omega) (by unfold zR; omega) (fun h16 => ?_) (fun h16 => ?_)
      · rw [show i = a 2 by omega]
        have hcl := vMc_le a (a 2).toNat
        refine rr_iload_n (pc := 57) dX7_meanCost_57 rfl ?_
        refine rr_if_ne (pc := 58) (tgt := 65) dX7_meanCost_58 (by decide) (by unfold zR; omega) (fun h58 => ?_) (fun h58 => ?_)
        · refine rr_iload_n (pc := 65) dX7_meanCost_65 rfl ?_
          refine rr_i2d (pc := 66) dX7_meanCost_66 ?_
          refine rr_iload_n (pc := 67) dX7_meanCost_67 rfl ?_
          refine rr_i2d (pc := 68) dX7_meanCost_68 ?_
          refine rr_ddiv (pc := 69) dX7_meanCost_69 (hN.1 _ _ (z_nz (by unfold zR; omega) h58)) ?_
          exact rr_retd (pc := 70) dX7_meanCost_70 rfl (by rw [show FP.ddiv (FP.i2d (Int32.ofInt (vMs a (a 2).toNat))) (FP.i2d (Int32.ofInt (vMc a (a 2).toNat))) = vMean a by unfold vMean; rw [if_neg h58]]; exact hq Wi hO hT)
        · refine rr_dconst0 (pc := 61) dX7_meanCost_61 ?_
          refine rr_goto (pc := 62) (tgt := 70) dX7_meanCost_62 (by decide) ?_
          exact rr_retd (pc := 70) dX7_meanCost_70 rfl (by rw [show FP.dconst0 = vMean a by unfold vMean; rw [if_pos h58]]; exact hq Wi hO hT)
      · refine rr_aload_n (pc := 19) dX7_meanCost_19 rfl ?_
        refine rr_iload_n (pc := 20) dX7_meanCost_20 rfl ?_
        refine rr_inv0 (M' := MX7_hopFaultOf) (k := 116) (As := [_]) (pc := 21) dX7_meanCost_21 lX7_306 kX7_hopFaultOf vX7_hopFaultOf zk_116 (by decide) rfl (by decide) (by decide) (Nat.le_of_ble_eq_true rfl) rfl (eX7_hopFaultOf ea hw h1 (by omega) (fun W1 o1 => ?_))
        refine rr_if_eq (pc := 24) (tgt := 30) dX7_meanCost_24 (by decide) (by have := @aHopF_R a i; unfold zR; omega) (fun h24 => ?_) (fun h24 => ?_)
        · refine rr_iinc (pc := 30) dX7_meanCost_30 rfl (by decide) ?_
          refine rr_iload_n (pc := 33) dX7_meanCost_33 rfl ?_
          refine rr_aload_n (pc := 34) dX7_meanCost_34 rfl ?_
          refine rr_iload_n (pc := 35) dX7_meanCost_35 rfl ?_
          refine rr_iconst (n := 0) dX7_meanCost_36 ?_
          refine rr_inv0 (M' := MX7_costOf) (k := 116) (As := [_, _]) (pc := 37) dX7_meanCost_37 lX7_309 kX7_costOf vX7_costOf zk_116 (by decide) rfl (by decide) (by decide) (Nat.le_of_ble_eq_true rfl) rfl (eX7_costOf (o1.Q.a.trans ea) hw h1 (by omega) (Or.inl rfl) (fun W2 o2 _ => ?_))
          refine rr_iadd (pc := 40) dX7_meanCost_40 ?_
          refine rr_istore_n (pc := 41) dX7_meanCost_41 (by decide) ?_
          refine rr_iload_n (pc := 42) dX7_meanCost_42 rfl ?_
          refine rr_aload_n (pc := 43) dX7_meanCost_43 rfl ?_
          refine rr_iload_n (pc := 44) dX7_meanCost_44 rfl ?_
          refine rr_iconst (n := 1) dX7_meanCost_45 ?_
          refine rr_inv0 (M' := MX7_costOf) (k := 116) (As := [_, _]) (pc := 46) dX7_meanCost_46 lX7_309 kX7_costOf vX7_costOf zk_116 (by decide) rfl (by decide) (by decide) (Nat.le_of_ble_eq_true rfl) rfl (eX7_costOf (o2.Q.a.trans (o1.Q.a.trans ea)) hw h1 (by omega) (Or.inr rfl) (fun W3 o3 _ => ?_))
          refine rr_iadd (pc := 49) dX7_meanCost_49 ?_
          refine rr_istore_n (pc := 50) dX7_meanCost_50 (by decide) ?_
          refine rr_iinc (pc := 51) dX7_meanCost_51 rfl (by decide) ?_
          refine rr_goto (pc := 54) (tgt := 11) dX7_meanCost_54 (by decide) ?_
          rw [show vMs a i.toNat + aCost a i (aP a i 2) (aRc a i) 0 + aCost a i (aP a i 2) (aRc a i) 1 = vMs a (i + 1).toNat by rw [vMs_s h1, if_pos h24]; omega, show vMc a i.toNat + 1 = vMc a (i + 1).toNat by rw [vMc_s h1, if_pos h24]]
          exact ih (i + 1) W3 (by omega) (by omega) (hO.tr (o1.Q.tr (o2.Q.tr o3.Q))) (o3.t7.trans (o2.t7.trans (o1.t7.trans hT))) (by omega)
        · refine rr_goto (pc := 27) (tgt := 51) dX7_meanCost_27 (by decide) ?_
          refine rr_iinc (pc := 51) dX7_meanCost_51 rfl (by decide) ?_
          refine rr_goto (pc := 54) (tgt := 11) dX7_meanCost_54 (by decide) ?_
          rw [show vMs a i.toNat = vMs a (i + 1).toNat by rw [vMs_s h1, if_neg h24]; omega, show vMc a i.toNat = vMc a (i + 1).toNat by rw [vMc_s h1, if_neg h24]; omega]
          exact ih (i + 1) W1 (by omega) (by omega) (hO.tr o1.Q) (o1.t7.trans hT) (by omega)
  exact loop _ 0 _ (by omega) (by omega) zOfQ.t zup_s (Nat.lt_succ_self _)
theorem dX7_success_0 : decode cX7_success 0 = .ok (.aload_n 0, 1) := by decide +kernel
theorem dX7_success_1 : decode cX7_success 1 = .ok (.iconst 0, 1) := by decide +kernel
theorem dX7_success_2 : decode cX7_success 2 = .ok (.putfield 59, 3) := by decide +kernel
theorem dX7_success_5 : decode cX7_success 5 = .ok (.aload_n 0, 1) := by decide +kernel
theorem dX7_success_6 : decode cX7_success 6 = .ok (.getfield 7, 3) := by decide +kernel
theorem dX7_success_9 : decode cX7_success 9 = .ok (.iconst 5, 1) := by decide +kernel
theorem dX7_success_10 : decode cX7_success 10 = .ok (.iaload, 1) := by decide +kernel
theorem dX7_success_11 : decode cX7_success 11 = .ok (.ifCond .ne 7, 3) := by decide +kernel
theorem dX7_success_14 : decode cX7_success 14 = .ok (.fconst 0, 1) := by decide +kernel
theorem dX7_success_15 : decode cX7_success 15 = .ok (.goto 19, 3) := by decide +kernel
theorem dX7_success_18 : decode cX7_success 18 = .ok (.aload_n 0, 1) := by decide +kernel
theorem dX7_success_19 : decode cX7_success 19 = .ok (.getfield 7, 3) := by decide +kernel
theorem dX7_success_22 : decode cX7_success 22 = .ok (.bipush 7, 2) := by decide +kernel
theorem dX7_success_24 : decode cX7_success 24 = .ok (.iaload, 1) := by decide +kernel
theorem dX7_success_25 : decode cX7_success 25 = .ok (.i2f, 1) := by decide +kernel
theorem dX7_success_26 : decode cX7_success 26 = .ok (.aload_n 0, 1) := by decide +kernel
theorem dX7_success_27 : decode cX7_success 27 = .ok (.getfield 7, 3) := by decide +kernel
theorem dX7_success_30 : decode cX7_success 30 = .ok (.iconst 5, 1) := by decide +kernel
theorem dX7_success_31 : decode cX7_success 31 = .ok (.iaload, 1) := by decide +kernel
theorem dX7_success_32 : decode cX7_success 32 = .ok (.i2f, 1) := by decide +kernel
theorem dX7_success_33 : decode cX7_success 33 = .ok (.fdiv, 1) := by decide +kernel
theorem dX7_success_34 : decode cX7_success 34 = .ok (.freturn, 1) := by decide +kernel
theorem eX7_success {W : zWd} {a : Int → Int}  {Q : Option Value → zWd → Prop} {X : zX} (ha : W 117 = a) (hN : zNN) (h5 : zR (a 5)) (hq : ∀ W' : zWd, zOfQ W W' → W' 116 7 = 0 → Q (some (.float (vSucc a))) W') : Ev MX7_success 0 0 W [.ref 116] Q X := by
  refine ev_ofD (ls := [.ref 116]) (by decide) rfl (fun _ => rfl) (fun _ => Nat.le_of_ble_eq_true rfl) (Or.inl rfl) ?_
  refine rr_aload_n (pc := 0) dX7_success_0 rfl ?_
  refine rr_iconst (n := 0) dX7_success_1 ?_
  refine rr_put (pc := 2) (ji := 7) dX7_success_2 fX7_59 fp_7_7 zk_116 zr_116_7 rfl ?_
  have o1 : zOfQ W (zup W 116 7 0) := zOfQ.t
  have t1 : zup W 116 7 0 116 7 = 0 := zup_s
  have a1 : zup W 116 7 0 117 = a := o1.a.trans ha
  generalize zup W 116 7 0 = W1 at o1 t1 a1 ⊢
  refine rr_aload_n (pc := 5) dX7_success_5 rfl ?_
  refine rr_getR (pc := 6) dX7_success_6 fX7_7 zk_116 zr_116_0 ?_
  refine rr_iconst (n := 5) dX7_success_9 ?_
  refine rr_iald (pc := 10) dX7_success_10 zk_117 (by omega) (by omega) ?_
  rw [a1]
  refine rr_if_ne (pc := 11) (tgt := 18) dX7_success_11 (by decide) h5 (fun h11 => ?_) (fun h11 => ?_)
  · refine rr_aload_n (pc := 18) dX7_success_18 rfl ?_
    refine rr_getR (pc := 19) dX7_success_19 fX7_7 zk_116 zr_116_0 ?_
    refine rr_bipush (n := (7)) dX7_success_22 ?_
    refine rr_iald (pc := 24) dX7_success_24 zk_117 (by omega) (by omega) ?_
    rw [a1]
    refine rr_i2f (pc := 25) dX7_success_25 ?_
    refine rr_aload_n (pc := 26) dX7_success_26 rfl ?_
    refine rr_getR (pc := 27) dX7_success_27 fX7_7 zk_116 zr_116_0 ?_
    refine rr_iconst (n := 5) dX7_success_30 ?_
    refine rr_iald (pc := 31) dX7_success_31 zk_117 (by omega) (by omega) ?_
    rw [a1]
    refine rr_i2f (pc := 32) dX7_success_32 ?_
    refine rr_fdiv (pc := 33) dX7_success_33 (hN.2.1 _ _ (z_nz h5 h11)) ?_
    exact rr_retf (pc := 34) dX7_success_34 rfl (by rw [show FP.fdiv (FP.i2f (Int32.ofInt (a 7))) (FP.i2f (Int32.ofInt (a 5))) = vSucc a by unfold vSucc; rw [if_neg h11]]; exact hq W1 o1 t1)
  · refine rr_fconst0 (pc := 14) dX7_success_14 ?_
    refine rr_goto (pc := 15) (tgt := 34) dX7_success_15 (by decide) ?_
    exact rr_retf (pc := 34) dX7_success_34 rfl (by rw [show FP.fconst0 = vSucc a by unfold vSucc; rw [if_pos h11]]; exact hq W1 o1 t1)
