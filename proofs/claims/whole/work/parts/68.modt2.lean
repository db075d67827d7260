/-! a turn -/
def zSm9 (a b : Int → Int) : Prop := (∀ j : Int, j < 18 → j ≠ 6 → b j = a j) ∧ (∀ s : Int, 1 ≤ s → aO b s = aO a s) ∧ ∀ j : Int, 58 ≤ j → b j = a j
theorem zSm9.P {a b : Int → Int} (h : zSm9 a b) {q w : Int} (hq : 0 ≤ q) (hw : 0 ≤ w) : aP b q w = aP a q w := h.2.2 _ (by omega)
theorem zSm9.use {a b : Int → Int} (h : zSm9 a b) {p own : Int} {i : Nat} (hi : 1 ≤ i) : aUse b p own i = aUse a p own i := aUse_cgO (h.1 2 (by omega) (by omega)) (h.2.1 _ (by omega)) (fun q => h.P (by omega) (by omega))
theorem zSm9.mk {T : Int} {a : Int → Int} {P : Int → Bool} {R : List Int} (hw : zWf T a) (hT : T + R.length ≤ 100000000) : zSm9 a (aMkH a P R) := ⟨fun j h1 h2 => aMkH_out hw hT (Or.inl h1) h2, fun s h => aMkH_O h, fun j h => aMkH_out hw hT (Or.inr h) (by omega)⟩
theorem zFt_sm {T : Int} {a b : Int → Int} {p own bk : Int} {k : Nat} (hw : zWf T a) (h : zSm9 a b) : zFt b p own bk k = zFt a p own bk k := by
  have hsq := zWf.sq hw
  unfold zFt
  rw [h.1 0 (by omega) (by omega)]
  by_cases z : k = 0 ∨ a 0 + 1 ≤ (k : Int)
  · rw [if_pos z, if_pos z]
  · rw [if_neg z, if_neg z]
    have hr : 0 ≤ zRa bk (a 0 + 1) k ∧ zRa bk (a 0 + 1) k < a 0 := by unfold zRa; split <;> omega
    have h10 := hw.2.1
    have hri := aRow_in hw hr.1 hr.2
    have hww := hw.2.2.1 _ hr.1 hr.2
    rw [aF_cg (a := a) (fun j g1 g2 => h.1 j g2 (by omega)) _ (by omega), h.1 (8 + zRa bk (a 0 + 1) k) (by omega) (by omega)]
    refine zFo_cg (h.use (by omega)) ?_ (fun h2 => h.use (by omega)) (fun h2 => ?_)
    · show decide (aO b _ = p) = _
      rw [h.2.1 _ (by omega)]
    · show decide (aO b _ = p) = _
      rw [h.2.1 _ (by omega)]
theorem aCost_sm {T : Int} {a b : Int → Int} {p tg bk : Int} {rc : Nat} (hw : zWf T a) (h : zSm9 a b) (hp : 0 ≤ p) : aCost b p tg rc bk = aCost a p tg rc bk ∧ aWay b p tg rc bk = aWay a p tg rc bk := by
  have hF : zWF b p tg bk = zWF a p tg bk := by funext k; exact zFt_sm hw h
  have hm : zWm b tg bk = zWm a tg bk := by
    unfold zWm
    rw [h.1 0 (by omega) (by omega), aR_cg (a := a) (fun j g1 g2 => h.1 j g2 (by omega))]
  unfold aCost aWay
  rw [hF, h.1 0 (by omega) (by omega), h.1 1 (by omega) (by omega), hm, h.P hp (by omega)]
  exact ⟨rfl, rfl⟩
theorem aFault_own {T : Int} {a : Int → Int} {p v pw sd : Int} (hw : zWf T a) (hp : 0 ≤ p) : aFault (iup a (58 + 17 * p + 5) v) p pw sd = aFault a p pw sd := by
  have h10 := hw.2.1
  have n : ∀ j : Int, j < 58 → iup a (58 + 17 * p + 5) v j = a j := fun j g => iup_n (by omega)
  unfold aFault
  rw [n 0 (by omega), n 3 (by omega), aP_up (by omega)]
  by_cases h1 : pw + a 3 < 0 ∨ a 0 ≤ (pw + a 3) / 10
  · rw [if_pos h1, if_pos h1]
  · rw [if_neg h1, if_neg h1, n (8 + (pw + a 3) / 10) (by omega), aF_cg (a := a) (fun j _ g => n j (by omega)) _ (by omega)]
theorem aMove_up7 {a : Int → Int} {p v : Int} (hp : 0 ≤ p) (ht : 0 ≤ aP a p 2) : aMove (iup a 7 v) p = iup (aMove a p) 7 v := by
  have e1 : ∀ s : Int, 1 ≤ s → aOpen (iup a 7 v) p s = aOpen a p s := fun s hs => aOpen_cg (iup_n (by omega)) (fun s' g1 g2 => by unfold aO; rw [iup_n (by omega)])
  have e2 : ∀ w : Int, 0 ≤ w → aP (iup a 7 v) p w = aP a p w := fun w hw => iup_n (by omega)
  unfold aMove
  rw [e2 2 (by omega), e1 _ (by omega), e2 4 (by omega), e2 3 (by omega), e1 1 (by omega)]
  split
  · show iup (iup (iup (iup a 7 v) _ _) _ _) _ _ = iup (iup (iup (iup a _ _) _ _) _ _) 7 v
    rw [iup_comm (show (7 : Int) ≠ 58 + 17 * p + 4 by omega), iup_comm (show (7 : Int) ≠ 58 + 17 * p + 3 by omega), iup_comm (show (7 : Int) ≠ 58 + 17 * p + 2 by omega)]
  · rw [iup_comm (by omega)]
theorem aGood_thru {T : Int} {a : Int → Int} {p : Int} (hw : zWf T a) (hT : T + 40 ≤ 100000000) (hp0 : 0 ≤ p) (hp1 : p < a 2) :
    aThru (aMkH (aHopO a p) (aPr (aHopO a p) p 0) (aRows a p (aP a p 2) (aRc a p) 1)) p = aGood a p := by
  obtain ⟨f1, f2, f3, l0, l1⟩ := aHopB_wf (p := p) hw (by omega) hp0
  have hs : zSm9 a (aHopO a p) := zSm9.mk hw (by omega)
  have hm2 := f3.2.2.2.2.2.2.2.2.2.2.2.2.2.2.2.2.2.1 p hp0 (by
    show p < aMkH (iup (aHopO a p) (58 + 17 * p + 5) 0) _ _ 2
    rw [aMkH_out f2 (by omega) (by omega) (by omega), iup_n (by omega), hs.1 2 (by omega) (by omega)]; exact hp1)
  unfold zWfP at hm2
  have sq1 := zWf.sq f1
  have e3 : iup (aMkH (aHopO a p) (aPr (aHopO a p) p 0) (aRows a p (aP a p 2) (aRc a p) 1)) (58 + 17 * p + 5) 0 = aHopB a (aHopO a p) p := by
    show _ = aMkH (iup (aHopO a p) (58 + 17 * p + 5) 0) (aPr a p 0) (aRows a p (aP a p 2) (aRc a p) 1)
    rw [aMkH_up f1 (by omega) (by omega), aMkH_cg (P := aPr (aHopO a p) p 0) (P' := aPr a p 0) f1 (by omega) (fun s g1 g2 => hs.use (by omega))]
  unfold aThru aGood
  rw [e3]
  have e7 : aMkH (aHopO a p) (aPr (aHopO a p) p 0) (aRows a p (aP a p 2) (aRc a p) 1) 7 = aHopB a (aHopO a p) p 7 := by rw [← e3, iup_n (by omega)]
  rw [e7, aMove_up7 hp0 (by omega)]
  show _ = iup (aMove (aHopB a (aHopO a p) p) p) 7 (aMove (aHopB a (aHopO a p) p) p 7 + 1)
  rw [aMove_n hp0 (by omega)]
/-- what a turn may change -/
def zOfT (W W' : zWd) : Prop := (∀ k : Nat, k ≠ 116 → k ≠ 117 → k ≠ 124 → k ≠ 125 → k ≠ 126 → W' k = W k) ∧ ∀ j : Int, j ≠ 20 → j ≠ 21 → j ≠ 24 → W' 116 j = W 116 j
theorem zOfT.rf {W : zWd} : zOfT W W := ⟨fun _ _ _ _ _ _ => rfl, fun _ _ _ _ => rfl⟩
theorem zOfT.tr {W W' W'' : zWd} (h : zOfT W W') (h2 : zOfT W' W'') : zOfT W W'' := ⟨fun k g1 g2 g3 g4 g5 => (h2.1 k g1 g2 g3 g4 g5).trans (h.1 k g1 g2 g3 g4 g5), fun j g1 g2 g3 => (h2.2 j g1 g2 g3).trans (h.2 j g1 g2 g3)⟩
theorem zOfl.T {W W' : zWd} (h : zOfl W W') : zOfT W W' := ⟨fun k g1 _ g3 g4 g5 => h.1 k g1 g3 g4 g5, fun j g1 g2 _ => h.2 j g1 g2⟩
theorem zOfm.T {W W' : zWd} (h : zOfm W W') : zOfT W W' := ⟨fun k _ g2 _ _ _ => h k g2, fun j _ _ _ => by rw [h 116 (by decide)]⟩
theorem zOfT.up {W W' : zWd} {v : Int} (h : zOfT W W') : zOfT W (zup W' 116 24 v) := ⟨fun k g1 g2 g3 g4 g5 => by rw [zup_other k g1]; exact h.1 k g1 g2 g3 g4 g5, fun j g1 g2 g3 => by rw [zup_i g3]; exact h.2 j g1 g2 g3⟩
theorem zLy.up {W : zWd} {l : List Nat} {v : Int} (h : zLy W l) : zLy (zup W 116 24 v) l := ⟨by rw [zup_i (by decide)]; exact h.1, fun i hi => by rw [zup_other 126 (by decide)]; exact h.2 i hi⟩
theorem dX7_turns_0 : decode cX7_turns 0 = .ok (.aload_n 0, 1) := by decide +kernel
theorem dX7_turns_1 : decode cX7_turns 1 = .ok (.getfield 7, 3) := by decide +kernel
theorem dX7_turns_4 : decode cX7_turns 4 = .ok (.iconst 4, 1) := by decide +kernel
theorem dX7_turns_5 : decode cX7_turns 5 = .ok (.iaload, 1) := by decide +kernel
theorem dX7_turns_6 : decode cX7_turns 6 = .ok (.istore_n 3, 1) := by decide +kernel
theorem dX7_turns_7 : decode cX7_turns 7 = .ok (.aload_n 0, 1) := by decide +kernel
theorem dX7_turns_8 : decode cX7_turns 8 = .ok (.iload_n 3, 1) := by decide +kernel
theorem dX7_turns_9 : decode cX7_turns 9 = .ok (.iconst 5, 1) := by decide +kernel
theorem dX7_turns_10 : decode cX7_turns 10 = .ok (.iconst 0, 1) := by decide +kernel
theorem dX7_turns_11 : decode cX7_turns 11 = .ok (.invokevirtual 55, 3) := by decide +kernel
theorem dX7_turns_14 : decode cX7_turns 14 = .ok (.aload_n 0, 1) := by decide +kernel
theorem dX7_turns_15 : decode cX7_turns 15 = .ok (.iload_n 3, 1) := by decide +kernel
theorem dX7_turns_16 : decode cX7_turns 16 = .ok (.iload_n 1, 1) := by decide +kernel
theorem dX7_turns_17 : decode cX7_turns 17 = .ok (.iload_n 2, 1) := by decide +kernel
theorem dX7_turns_18 : decode cX7_turns 18 = .ok (.invokevirtual 300, 3) := by decide +kernel
theorem dX7_turns_21 : decode cX7_turns 21 = .ok (.istore 4, 2) := by decide +kernel
theorem dX7_turns_23 : decode cX7_turns 23 = .ok (.aload_n 0, 1) := by decide +kernel
theorem dX7_turns_24 : decode cX7_turns 24 = .ok (.iload_n 3, 1) := by decide +kernel
theorem dX7_turns_25 : decode cX7_turns 25 = .ok (.iconst 2, 1) := by decide +kernel
theorem dX7_turns_26 : decode cX7_turns 26 = .ok (.invokevirtual 154, 3) := by decide +kernel
theorem dX7_turns_29 : decode cX7_turns 29 = .ok (.istore 5, 2) := by decide +kernel
theorem dX7_turns_31 : decode cX7_turns 31 = .ok (.iload 4, 2) := by decide +kernel
theorem dX7_turns_33 : decode cX7_turns 33 = .ok (.ifCond .ne 18, 3) := by decide +kernel
theorem dX7_turns_36 : decode cX7_turns 36 = .ok (.aload_n 0, 1) := by decide +kernel
theorem dX7_turns_37 : decode cX7_turns 37 = .ok (.iload_n 3, 1) := by decide +kernel
theorem dX7_turns_38 : decode cX7_turns 38 = .ok (.iconst 5, 1) := by decide +kernel
theorem dX7_turns_39 : decode cX7_turns 39 = .ok (.iload 5, 2) := by decide +kernel
theorem dX7_turns_41 : decode cX7_turns 41 = .ok (.invokevirtual 55, 3) := by decide +kernel
theorem dX7_turns_44 : decode cX7_turns 44 = .ok (.aload_n 0, 1) := by decide +kernel
theorem dX7_turns_45 : decode cX7_turns 45 = .ok (.iload_n 3, 1) := by decide +kernel
theorem dX7_turns_46 : decode cX7_turns 46 = .ok (.invokevirtual 306, 3) := by decide +kernel
theorem dX7_turns_49 : decode cX7_turns 49 = .ok (.istore 4, 2) := by decide +kernel
theorem dX7_turns_51 : decode cX7_turns 51 = .ok (.iload 4, 2) := by decide +kernel
theorem dX7_turns_53 : decode cX7_turns 53 = .ok (.ifCond .ne 62, 3) := by decide +kernel
theorem dX7_turns_56 : decode cX7_turns 56 = .ok (.aload_n 0, 1) := by decide +kernel
theorem dX7_turns_57 : decode cX7_turns 57 = .ok (.aload_n 0, 1) := by decide +kernel
theorem dX7_turns_58 : decode cX7_turns 58 = .ok (.iload_n 3, 1) := by decide +kernel
theorem dX7_turns_59 : decode cX7_turns 59 = .ok (.iload 5, 2) := by decide +kernel
theorem dX7_turns_61 : decode cX7_turns 61 = .ok (.aload_n 0, 1) := by decide +kernel
theorem dX7_turns_62 : decode cX7_turns 62 = .ok (.iload_n 3, 1) := by decide +kernel
theorem dX7_turns_63 : decode cX7_turns 63 = .ok (.iconst 0, 1) := by decide +kernel
theorem dX7_turns_64 : decode cX7_turns 64 = .ok (.invokevirtual 154, 3) := by decide +kernel
theorem dX7_turns_67 : decode cX7_turns 67 = .ok (.iconst 0, 1) := by decide +kernel
theorem dX7_turns_68 : decode cX7_turns 68 = .ok (.invokevirtual 263, 3) := by decide +kernel
theorem dX7_turns_71 : decode cX7_turns 71 = .ok (.putfield 330, 3) := by decide +kernel
theorem dX7_turns_74 : decode cX7_turns 74 = .ok (.aload_n 0, 1) := by decide +kernel
theorem dX7_turns_75 : decode cX7_turns 75 = .ok (.iload_n 3, 1) := by decide +kernel
theorem dX7_turns_76 : decode cX7_turns 76 = .ok (.iconst 0, 1) := by decide +kernel
theorem dX7_turns_77 : decode cX7_turns 77 = .ok (.iload 5, 2) := by decide +kernel
theorem dX7_turns_79 : decode cX7_turns 79 = .ok (.invokevirtual 333, 3) := by decide +kernel
theorem dX7_turns_82 : decode cX7_turns 82 = .ok (.aload_n 0, 1) := by decide +kernel
theorem dX7_turns_83 : decode cX7_turns 83 = .ok (.aload_n 0, 1) := by decide +kernel
theorem dX7_turns_84 : decode cX7_turns 84 = .ok (.iload_n 3, 1) := by decide +kernel
theorem dX7_turns_85 : decode cX7_turns 85 = .ok (.iload 5, 2) := by decide +kernel
theorem dX7_turns_87 : decode cX7_turns 87 = .ok (.aload_n 0, 1) := by decide +kernel
theorem dX7_turns_88 : decode cX7_turns 88 = .ok (.iload_n 3, 1) := by decide +kernel
theorem dX7_turns_89 : decode cX7_turns 89 = .ok (.iconst 0, 1) := by decide +kernel
theorem dX7_turns_90 : decode cX7_turns 90 = .ok (.invokevirtual 154, 3) := by decide +kernel
theorem dX7_turns_93 : decode cX7_turns 93 = .ok (.iconst 1, 1) := by decide +kernel
theorem dX7_turns_94 : decode cX7_turns 94 = .ok (.invokevirtual 263, 3) := by decide +kernel
theorem dX7_turns_97 : decode cX7_turns 97 = .ok (.putfield 330, 3) := by decide +kernel
theorem dX7_turns_100 : decode cX7_turns 100 = .ok (.aload_n 0, 1) := by decide +kernel
theorem dX7_turns_101 : decode cX7_turns 101 = .ok (.iload_n 3, 1) := by decide +kernel
theorem dX7_turns_102 : decode cX7_turns 102 = .ok (.iconst 1, 1) := by decide +kernel
theorem dX7_turns_103 : decode cX7_turns 103 = .ok (.iconst 0, 1) := by decide +kernel
theorem dX7_turns_104 : decode cX7_turns 104 = .ok (.invokevirtual 333, 3) := by decide +kernel
theorem dX7_turns_107 : decode cX7_turns 107 = .ok (.aload_n 0, 1) := by decide +kernel
theorem dX7_turns_108 : decode cX7_turns 108 = .ok (.iload_n 3, 1) := by decide +kernel
theorem dX7_turns_109 : decode cX7_turns 109 = .ok (.invokevirtual 337, 3) := by decide +kernel
theorem dX7_turns_112 : decode cX7_turns 112 = .ok (.goto 19, 3) := by decide +kernel
theorem dX7_turns_115 : decode cX7_turns 115 = .ok (.aload_n 0, 1) := by decide +kernel
theorem dX7_turns_116 : decode cX7_turns 116 = .ok (.iload_n 3, 1) := by decide +kernel
theorem dX7_turns_117 : decode cX7_turns 117 = .ok (.bipush 7, 2) := by decide +kernel
theorem dX7_turns_119 : decode cX7_turns 119 = .ok (.aload_n 0, 1) := by decide +kernel
theorem dX7_turns_120 : decode cX7_turns 120 = .ok (.iload_n 3, 1) := by decide +kernel
theorem dX7_turns_121 : decode cX7_turns 121 = .ok (.bipush 7, 2) := by decide +kernel
theorem dX7_turns_123 : decode cX7_turns 123 = .ok (.invokevirtual 154, 3) := by decide +kernel
theorem dX7_turns_126 : decode cX7_turns 126 = .ok (.iconst 1, 1) := by decide +kernel
theorem dX7_turns_127 : decode cX7_turns 127 = .ok (.iadd, 1) := by decide +kernel
theorem dX7_turns_128 : decode cX7_turns 128 = .ok (.invokevirtual 55, 3) := by decide +kernel
theorem dX7_turns_131 : decode cX7_turns 131 = .ok (.aload_n 0, 1) := by decide +kernel
theorem dX7_turns_132 : decode cX7_turns 132 = .ok (.iload_n 3, 1) := by decide +kernel
theorem dX7_turns_133 : decode cX7_turns 133 = .ok (.iload 4, 2) := by decide +kernel
theorem dX7_turns_135 : decode cX7_turns 135 = .ok (.invokevirtual 340, 3) := by decide +kernel
theorem dX7_turns_138 : decode cX7_turns 138 = .ok (.iload 4, 2) := by decide +kernel
theorem dX7_turns_140 : decode cX7_turns 140 = .ok (.ireturn, 1) := by decide +kernel
theorem eX7_turnsG {W : zWd} {a : Int → Int} {T p pw sd f tg : Int} {Q : Option Value → zWd → Prop} {X : zX} (ha : W 117 = a) (hw : zWf T a) (hp0 : 0 ≤ p) (hp1 : p < a 2) (hT : T + 60 ≤ 100000000) (htg : aP a p 2 = tg) (h1 : 1 ≤ tg)
    (tail : ∀ W' : zWd, zOfT W W' → W' 117 = aGood a p → RR MX7_turns 7 0 W' 131 [.ref 116, zI pw, zI sd, zI p, zI f, zI tg] [] (zEnd MX7_turns Q X) X) : RR MX7_turns 7 0 W 56 [.ref 116, zI pw, zI sd, zI p, zI f, zI tg] [] (zEnd MX7_turns Q X) X := by
  obtain ⟨w0, w0', wW, w1, w2, w2', w3, w3', w4, w4', w5, w5', w6, w6', w7, w7', wS, wP, wT⟩ := id hw
  have wq := zWf.sq hw
  have hT : T + 40 ≤ 100000000 := by omega
  have hm2 := wP p hp0 hp1
  unfold zWfP at hm2
  have hrr := aRc_rng hw hp0 hp1
  have fH := aHopB_wf (p := p) hw (by omega) hp0
  obtain ⟨-, -, -, fl0, fl1⟩ := id fH
  refine rr_aload_n (pc := 56) dX7_turns_56 rfl ?_
  refine rr_aload_n (pc := 57) dX7_turns_57 rfl ?_
  refine rr_iload_n (pc := 58) dX7_turns_58 rfl ?_
  refine rr_iload (pc := 59) dX7_turns_59 rfl ?_
  refine rr_aload_n (pc := 61) dX7_turns_61 rfl ?_
  refine rr_iload_n (pc := 62) dX7_turns_62 rfl ?_
  refine rr_iconst (n := 0) dX7_turns_63 ?_
  refine rr_inv0 (M' := MX7_of) (k := 116) (As := [_, _]) (pc := 64) dX7_turns_64 lX7_154 kX7_of vX7_of zk_116 (by decide) rfl (by decide) (by decide) (Nat.le_of_ble_eq_true rfl) rfl (eX7_of (by omega) (by omega) (by omega) (by omega) ?_)
  rw [ha, hrr.2.2]
  refine rr_iconst (n := 0) dX7_turns_67 ?_
  refine rr_inv0 (M' := MX7_lays) (k := 116) (As := [_, _, _, _]) (pc := 68) dX7_turns_68 lX7_263 kX7_lays vX7_lays zk_116 (by decide) rfl (by decide) (by decide) (Nat.le_of_ble_eq_true rfl) rfl (eX7_lays ha hw hp0 hp1 h1 (by omega) hrr.1 hrr.2.1 (Or.inl rfl) (fun W1 o1 l1 => ?_))
  generalize aCost a p tg (aRc a p) 0 = cst0
  refine rr_put (pc := 71) (ji := 24) dX7_turns_71 fX7_330 fp_7_24 zk_116 zr_116_24 rfl ?_
  have oA : zOfT W (zup W1 116 24 cst0) := o1.T.up
  have lA := l1.up (v := cst0)
  have eA : zup W1 116 24 cst0 117 = a := by rw [zup_other 117 (by decide)]; exact o1.a.trans ha
  generalize zup W1 116 24 cst0 = W2 at oA lA eA ⊢
  refine rr_aload_n (pc := 74) dX7_turns_74 rfl ?_
  refine rr_iload_n (pc := 75) dX7_turns_75 rfl ?_
  refine rr_iconst (n := 0) dX7_turns_76 ?_
  refine rr_iload (pc := 77) dX7_turns_77 rfl ?_
  refine rr_inv0 (M' := MX7_hops) (k := 116) (As := [_, _, _]) (pc := 79) dX7_turns_79 lX7_333 kX7_hops vX7_hops zk_116 (by decide) rfl (by decide) (by decide) (Nat.le_of_ble_eq_true rfl) rfl (eX7_hops eA hw hp0 hp1 (Or.inl rfl) (by unfold zR; omega) hT lA (aWay_w9 (by omega) hw.2.1) (fun W3 o3 e3 => ?_))
  have e3 : W3 117 = aHopO a p := by rw [e3]; unfold aHopO aRows; rw [htg]
  have oB := oA.tr o3.T
  have hs : zSm9 a (aHopO a p) := zSm9.mk hw (by omega)
  have c9 := fun bk => aCost_sm (tg := tg) (rc := aRc a p) (bk := bk) hw hs hp0
  have f1 : zWf (T + 11) (aHopO a p) := fH.1.mono (by omega) (by omega)
  have hrr1 : aP (aHopO a p) p 0 = ((aRc a p : Nat) : Int) := (hs.P hp0 (by omega)).trans hrr.2.2
  refine rr_aload_n (pc := 82) dX7_turns_82 rfl ?_
  refine rr_aload_n (pc := 83) dX7_turns_83 rfl ?_
  refine rr_iload_n (pc := 84) dX7_turns_84 rfl ?_
  refine rr_iload (pc := 85) dX7_turns_85 rfl ?_
  refine rr_aload_n (pc := 87) dX7_turns_87 rfl ?_
  refine rr_iload_n (pc := 88) dX7_turns_88 rfl ?_
  refine rr_iconst (n := 0) dX7_turns_89 ?_
  refine rr_inv0 (M' := MX7_of) (k := 116) (As := [_, _]) (pc := 90) dX7_turns_90 lX7_154 kX7_of vX7_of zk_116 (by decide) rfl (by decide) (by decide) (Nat.le_of_ble_eq_true rfl) rfl (eX7_of (by omega) (by omega) (by omega) (by omega) ?_)
  rw [e3, hrr1]
  refine rr_iconst (n := 1) dX7_turns_93 ?_
  refine rr_inv0 (M' := MX7_lays) (k := 116) (As := [_, _, _, _]) (pc := 94) dX7_turns_94 lX7_263 kX7_lays vX7_lays zk_116 (by decide) rfl (by decide) (by decide) (Nat.le_of_ble_eq_true rfl) rfl (eX7_lays e3 f1 hp0 (by rw [hs.1 2 (by omega) (by omega)]; exact hp1) h1 (by rw [hs.1 1 (by omega) (by omega)]; omega) hrr.1 hrr.2.1 (Or.inr rfl) (fun W4 o4 l4 => ?_))
  rw [(c9 1).2] at l4
  generalize aCost (aHopO a p) p tg (aRc a p) 1 = cst1
  refine rr_put (pc := 97) (ji := 24) dX7_turns_97 fX7_330 fp_7_24 zk_116 zr_116_24 rfl ?_
  have oC : zOfT W (zup W4 116 24 cst1) := oB.tr o4.T.up
  have lC := l4.up (v := cst1)
  have eC : zup W4 116 24 cst1 117 = aHopO a p := by rw [zup_other 117 (by decide)]; exact o4.a.trans e3
  generalize zup W4 116 24 cst1 = W5 at oC lC eC ⊢
  refine rr_aload_n (pc := 100) dX7_turns_100 rfl ?_
  refine rr_iload_n (pc := 101) dX7_turns_101 rfl ?_
  refine rr_iconst (n := 1) dX7_turns_102 ?_
  refine rr_iconst (n := 0) dX7_turns_103 ?_
  refine rr_inv0 (M' := MX7_hops) (k := 116) (As := [_, _, _]) (pc := 104) dX7_turns_104 lX7_333 kX7_hops vX7_hops zk_116 (by decide) rfl (by decide) (by decide) (Nat.le_of_ble_eq_true rfl) rfl (eX7_hops eC f1 hp0 (by rw [hs.1 2 (by omega) (by omega)]; exact hp1) (Or.inr rfl) (by unfold zR; omega) (by omega) lC (by rw [hs.1 0 (by omega) (by omega)]; exact aWay_w9 (by omega) hw.2.1) (fun W6 o6 e6 => ?_))
  rw [hs.1 0 (by omega) (by omega)] at e6
  have e6 : W6 117 = aMkH (aHopO a p) (aPr (aHopO a p) p 0) (aRows a p (aP a p 2) (aRc a p) 1) := by rw [e6, htg]; rfl
  have oD := oC.tr o6.T
  have f6 : zWf (T + 22) (aMkH (aHopO a p) (aPr (aHopO a p) p 0) (aRows a p (aP a p 2) (aRc a p) 1)) := (aMkH_wf f1 (by omega)).mono (by omega) (by omega)
  have p6 : p < aMkH (aHopO a p) (aPr (aHopO a p) p 0) (aRows a p (aP a p 2) (aRc a p) 1) 2 := by rw [aMkH_out f1 (by omega) (by omega) (by omega), hs.1 2 (by omega) (by omega)]; exact hp1
  refine rr_aload_n (pc := 107) dX7_turns_107 rfl ?_
  refine rr_iload_n (pc := 108) dX7_turns_108 rfl ?_
  refine rr_inv0 (M' := MX7_goesThrough) (k := 116) (As := [_]) (pc := 109) dX7_turns_109 lX7_337 kX7_goesThrough vX7_goesThrough zk_116 (by decide) rfl (by decide) (by decide) (Nat.le_of_ble_eq_true rfl) rfl (eX7_goesThrough e6 f6 hp0 p6 (by omega) (fun W7 o7 e7 => ?_))
  refine rr_goto (pc := 112) (tgt := 131) dX7_turns_112 (by decide) ?_
  exact tail W7 (oD.tr o7.T) (by rw [e7]; exact aGood_thru hw hT hp0 hp1)
theorem eX7_turns {W : zWd} {a : Int → Int} {T : Int} {pw sd : Int}  {Q : Option Value → zWd → Prop} {X : zX} (ha : W 117 = a) (hw : zWf T a) (hT : T + 60 ≤ 100000000) (h0 : 0 ≤ pw) (h1 : pw ≤ 199) (g0 : 0 ≤ sd) (g1 : sd ≤ 1) (hq : ∀ W' : zWd, zOfT W W' → W' 117 = aTurn a pw sd → Q (some (zI (aTfault a pw sd))) W') : Ev MX7_turns 7 0 W [.ref 116, zI pw, zI sd] Q X := by
  refine ev_of (ls := [.ref 116, zI pw, zI sd, .null, .null, .null]) (by decide) rfl (fun _ => rfl) (fun _ => Nat.le_of_ble_eq_true rfl) (Or.inl rfl) ?_
  obtain ⟨w0, w0', wW, w1, w2, w2', w3, w3', w4, w4', w5, w5', w6, w6', w7, w7', wS, wP, wT⟩ := id hw
  have wq := zWf.sq hw
  have hp0 := w4
  have hp1 := w4'
  have hm2 := wP (a 4) hp0 hp1
  unfold zWfP at hm2
  refine rr_aload_n (pc := 0) dX7_turns_0 rfl ?_
  refine rr_getR (pc := 1) dX7_turns_1 fX7_7 zk_116 zr_116_0 ?_
  refine rr_iconst (n := 4) dX7_turns_4 ?_
  refine rr_iald (pc := 5) dX7_turns_5 zk_117 (by omega) (by omega) ?_
  rw [ha]
  refine rr_istore_n (pc := 6) dX7_turns_6 (by decide) ?_
  refine rr_aload_n (pc := 7) dX7_turns_7 rfl ?_
  refine rr_iload_n (pc := 8) dX7_turns_8 rfl ?_
  refine rr_iconst (n := 5) dX7_turns_9 ?_
  refine rr_iconst (n := 0) dX7_turns_10 ?_
  refine rr_inv0 (M' := MX7_sets) (k := 116) (As := [_, _, _]) (pc := 11) dX7_turns_11 lX7_55 kX7_sets vX7_sets zk_116 (by decide) rfl (by decide) (by decide) (Nat.le_of_ble_eq_true rfl) rfl (eX7_sets (by omega) (by omega) (by omega) (by omega) ?_)
  have e1 : zup W 117 (58 + 17 * a 4 + 5) 0 117 = iup a (58 + 17 * a 4 + 5) 0 := by rw [zup_at, ha]
  have o1 : zOfm W (zup W 117 (58 + 17 * a 4 + 5) 0) := zOfm.rf.up
  have f1 : zWf T (iup a (58 + 17 * a 4 + 5) 0) := WF_P hw w4 (by unfold zWr; omega)
  generalize zup W 117 (58 + 17 * a 4 + 5) 0 = W1 at e1 o1 ⊢
  refine rr_aload_n (pc := 14) dX7_turns_14 rfl ?_
  refine rr_iload_n (pc := 15) dX7_turns_15 rfl ?_
  refine rr_iload_n (pc := 16) dX7_turns_16 rfl ?_
  refine rr_iload_n (pc := 17) dX7_turns_17 rfl ?_
  refine rr_inv0 (M' := MX7_faultOf) (k := 116) (As := [_, _, _]) (pc := 18) dX7_turns_18 lX7_300 kX7_faultOf vX7_faultOf zk_116 (by decide) rfl (by decide) (by decide) (Nat.le_of_ble_eq_true rfl) rfl (eX7_faultOf e1 f1 w4 (by rw [iup_n (by omega)]; exact w4') h0 h1 g0 g1 ?_)
  rw [aFault_own hw w4]
  have hfr := @aFault_rng a (a 4) pw sd
  refine rr_istore (pc := 21) dX7_turns_21 (by decide) ?_
  refine rr_aload_n (pc := 23) dX7_turns_23 rfl ?_
  refine rr_iload_n (pc := 24) dX7_turns_24 rfl ?_
  refine rr_iconst (n := 2) dX7_turns_25 ?_
  refine rr_inv0 (M' := MX7_of) (k := 116) (As := [_, _]) (pc := 26) dX7_turns_26 lX7_154 kX7_of vX7_of zk_116 (by decide) rfl (by decide) (by decide) (Nat.le_of_ble_eq_true rfl) rfl (eX7_of (by omega) (by omega) (by omega) (by omega) ?_)
  rw [e1, aP_up (by omega)]
  refine rr_istore (pc := 29) dX7_turns_29 (by decide) ?_
  refine rr_iload (pc := 31) dX7_turns_31 rfl ?_
  refine rr_if_ne (pc := 33) (tgt := 51) dX7_turns_33 (by decide) (by unfold zR; omega) (fun h33 => ?_) (fun h33 => ?_)
  · refine rr_iload (pc := 51) dX7_turns_51 rfl ?_
    refine rr_if_ne (pc := 53) (tgt := 115) dX7_turns_53 (by decide) (by unfold zR; omega) (fun h53 => ?_) (fun h53 => ?_)
    · have hTf : aTfault a pw sd = aFault a (a 4) pw sd := if_neg h33
      have hTm : aTm a pw sd = iup a (58 + 17 * a 4 + 5) 0 := by unfold aTm; rw [if_neg h33]
      have hTg : aTg a pw sd = iup a (58 + 17 * a 4 + 5) 0 := by unfold aTg; rw [hTf, if_neg h33, hTm]
      have q5 : aP (iup a (58 + 17 * a 4 + 5) 0) (a 4) 7 = aP a (a 4) 7 := aP_up (by omega)
      refine rr_aload_n (pc := 115) dX7_turns_115 rfl ?_
      refine rr_iload_n (pc := 116) dX7_turns_116 rfl ?_
      refine rr_bipush (n := (7)) dX7_turns_117 ?_
      refine rr_aload_n (pc := 119) dX7_turns_119 rfl ?_
      refine rr_iload_n (pc := 120) dX7_turns_120 rfl ?_
      refine rr_bipush (n := (7)) dX7_turns_121 ?_
      refine rr_inv0 (M' := MX7_of) (k := 116) (As := [_, _]) (pc := 123) dX7_turns_123 lX7_154 kX7_of vX7_of zk_116 (by decide) rfl (by decide) (by decide) (Nat.le_of_ble_eq_true rfl) rfl (eX7_of (by omega) (by omega) (by omega) (by omega) ?_)
      rw [e1]
      refine rr_iconst (n := 1) dX7_turns_126 ?_
      refine rr_iadd (pc := 127) dX7_turns_127 ?_
      refine rr_inv0 (M' := MX7_sets) (k := 116) (As := [_, _, _]) (pc := 128) dX7_turns_128 lX7_55 kX7_sets vX7_sets zk_116 (by decide) rfl (by decide) (by decide) (Nat.le_of_ble_eq_true rfl) rfl (eX7_sets (by omega) (by omega) (by omega) (by omega) ?_)
      have eE : zup W1 117 (58 + 17 * a 4 + 7) (aP (iup a (58 + 17 * a 4 + 5) 0) (a 4) 7 + 1) 117 = iup (iup a (58 + 17 * a 4 + 5) 0) (58 + 17 * a 4 + 7) (aP (iup a (58 + 17 * a 4 + 5) 0) (a 4) 7 + 1) := by rw [zup_at, e1]
      have oE : zOfT W (zup W1 117 (58 + 17 * a 4 + 7) (aP (iup a (58 + 17 * a 4 + 5) 0) (a 4) 7 + 1)) := o1.up.T
      have fE : zWf (T + 1) (iup (iup a (58 + 17 * a 4 + 5) 0) (58 + 17 * a 4 + 7) (aP (iup a (58 + 17 * a 4 + 5) 0) (a 4) 7 + 1)) := WF_P (f1.mono (by omega) (by omega)) w4 (by rw [q5]; unfold zWr; omega)
      have pE : a 4 < iup (iup a (58 + 17 * a 4 + 5) 0) (58 + 17 * a 4 + 7) (aP (iup a (58 + 17 * a 4 + 5) 0) (a 4) 7 + 1) 2 := by rw [iup_n (by omega), iup_n (by omega)]; exact w4'
      generalize zup W1 117 (58 + 17 * a 4 + 7) (aP (iup a (58 + 17 * a 4 + 5) 0) (a 4) 7 + 1) = WE at eE oE ⊢
      refine rr_aload_n (pc := 131) dX7_turns_131 rfl ?_
      refine rr_iload_n (pc := 132) dX7_turns_132 rfl ?_
      refine rr_iload (pc := 133) dX7_turns_133 rfl ?_
      refine rr_inv0 (M' := MX7_ends) (k := 116) (As := [_, _]) (pc := 135) dX7_turns_135 lX7_340 kX7_ends vX7_ends zk_116 (by decide) rfl (by decide) (by decide) (Nat.le_of_ble_eq_true rfl) rfl (eX7_ends eE fE w4 pE (fun W9 o9 e9 => ?_))
      refine rr_iload (pc := 138) dX7_turns_138 rfl ?_
      exact rr_reti (pc := 140) dX7_turns_140 rfl rfl hTf.symm rfl (hq W9 (oE.tr o9.T) (by rw [e9, aTurn_eq, hTg, hTf]; unfold aFlt; rw [if_neg h33]))
    · omega
  · refine rr_aload_n (pc := 36) dX7_turns_36 rfl ?_
    refine rr_iload_n (pc := 37) dX7_turns_37 rfl ?_
    refine rr_iconst (n := 5) dX7_turns_38 ?_
    refine rr_iload (pc := 39) dX7_turns_39 rfl ?_
    have hft := aFault_tg hw g0 h33
    refine rr_inv0 (M' := MX7_sets) (k := 116) (As := [_, _, _]) (pc := 41) dX7_turns_41 lX7_55 kX7_sets vX7_sets zk_116 (by decide) rfl (by decide) (by decide) (Nat.le_of_ble_eq_true rfl) rfl (eX7_sets (by omega) (by omega) (by omega) (by omega) ?_)
    have e2 : zup W1 117 (58 + 17 * a 4 + 5) (aP a (a 4) 2) 117 = iup a (58 + 17 * a 4 + 5) (aP a (a 4) 2) := by rw [zup_at, e1, iup_iup]
    have o2 : zOfm W (zup W1 117 (58 + 17 * a 4 + 5) (aP a (a 4) 2)) := o1.up
    have f2 : zWf T (iup a (58 + 17 * a 4 + 5) (aP a (a 4) 2)) := WF_P hw w4 (by unfold zWr; omega)
    generalize zup W1 117 (58 + 17 * a 4 + 5) (aP a (a 4) 2) = W2 at e2 o2 ⊢
    have p2 : a 4 < iup a (58 + 17 * a 4 + 5) (aP a (a 4) 2) 2 := by rw [iup_n (by omega)]; exact w4'
    have hTf : aTfault a pw sd = aHopF a (a 4) := if_pos h33
    have hTm : aTm a pw sd = iup a (58 + 17 * a 4 + 5) (aP a (a 4) 2) := by unfold aTm; rw [if_pos h33]
    refine rr_aload_n (pc := 44) dX7_turns_44 rfl ?_
    refine rr_iload_n (pc := 45) dX7_turns_45 rfl ?_
    refine rr_inv0 (M' := MX7_hopFaultOf) (k := 116) (As := [_]) (pc := 46) dX7_turns_46 lX7_306 kX7_hopFaultOf vX7_hopFaultOf zk_116 (by decide) rfl (by decide) (by decide) (Nat.le_of_ble_eq_true rfl) rfl (eX7_hopFaultOf e2 f2 w4 p2 (fun W3 o3 => ?_))
    rw [aHopF_own hw w4]
    have hhr := @aHopF_R a (a 4)
    have e3 : W3 117 = iup a (58 + 17 * a 4 + 5) (aP a (a 4) 2) := o3.a.trans e2
    have oB : zOfT W W3 := o2.T.tr o3.T
    refine rr_istore (pc := 49) dX7_turns_49 (by decide) ?_
    refine rr_iload (pc := 51) dX7_turns_51 rfl ?_
    refine rr_if_ne (pc := 53) (tgt := 115) dX7_turns_53 (by decide) (by unfold zR; omega) (fun h53 => ?_) (fun h53 => ?_)
    · have hTg : aTg a pw sd = iup a (58 + 17 * a 4 + 5) (aP a (a 4) 2) := by unfold aTg; rw [hTf, if_neg h53, hTm]
      have q5 : aP (iup a (58 + 17 * a 4 + 5) (aP a (a 4) 2)) (a 4) 7 = aP a (a 4) 7 := aP_up (by omega)
      refine rr_aload_n (pc := 115) dX7_turns_115 rfl ?_
      refine rr_iload_n (pc := 116) dX7_turns_116 rfl ?_
      refine rr_bipush (n := (7)) dX7_turns_117 ?_
      refine rr_aload_n (pc := 119) dX7_turns_119 rfl ?_
      refine rr_iload_n (pc := 120) dX7_turns_120 rfl ?_
      refine rr_bipush (n := (7)) dX7_turns_121 ?_
      refine rr_inv0 (M' := MX7_of) (k := 116) (As := [_, _]) (pc := 123) dX7_turns_123 lX7_154 kX7_of vX7_of zk_116 (by decide) rfl (by decide) (by decide) (Nat.le_of_ble_eq_true rfl) rfl (eX7_of (by omega) (by omega) (by omega) (by omega) ?_)
      rw [e3]
      refine rr_iconst (n := 1) dX7_turns_126 ?_
      refine rr_iadd (pc := 127) dX7_turns_127 ?_
      refine rr_inv0 (M' := MX7_sets) (k := 116) (As := [_, _, _]) (pc := 128) dX7_turns_128 lX7_55 kX7_sets vX7_sets zk_116 (by decide) rfl (by decide) (by decide) (Nat.le_of_ble_eq_true rfl) rfl (eX7_sets (by omega) (by omega) (by omega) (by omega) ?_)
      have eE : zup W3 117 (58 + 17 * a 4 + 7) (aP (iup a (58 + 17 * a 4 + 5) (aP a (a 4) 2)) (a 4) 7 + 1) 117 = iup (iup a (58 + 17 * a 4 + 5) (aP a (a 4) 2)) (58 + 17 * a 4 + 7) (aP (iup a (58 + 17 * a 4 + 5) (aP a (a 4) 2)) (a 4) 7 + 1) := by rw [zup_at, e3]
      have oE : zOfT W (zup W3 117 (58 + 17 * a 4 + 7) (aP (iup a (58 + 17 * a 4 + 5) (aP a (a 4) 2)) (a 4) 7 + 1)) := oB.tr zOfm.rf.up.T
      have fE : zWf (T + 1) (iup (iup a (58 + 17 * a 4 + 5) (aP a (a 4) 2)) (58 + 17 * a 4 + 7) (aP (iup a (58 + 17 * a 4 + 5) (aP a (a 4) 2)) (a 4) 7 + 1)) := WF_P (f2.mono (by omega) (by omega)) w4 (by rw [q5]; unfold zWr; omega)
      have pE : a 4 < iup (iup a (58 + 17 * a 4 + 5) (aP a (a 4) 2)) (58 + 17 * a 4 + 7) (aP (iup a (58 + 17 * a 4 + 5) (aP a (a 4) 2)) (a 4) 7 + 1) 2 := by rw [iup_n (by omega), iup_n (by omega)]; exact w4'
      generalize zup W3 117 (58 + 17 * a 4 + 7) (aP (iup a (58 + 17 * a 4 + 5) (aP a (a 4) 2)) (a 4) 7 + 1) = WE at eE oE ⊢
      refine rr_aload_n (pc := 131) dX7_turns_131 rfl ?_
      refine rr_iload_n (pc := 132) dX7_turns_132 rfl ?_
      refine rr_iload (pc := 133) dX7_turns_133 rfl ?_
      refine rr_inv0 (M' := MX7_ends) (k := 116) (As := [_, _]) (pc := 135) dX7_turns_135 lX7_340 kX7_ends vX7_ends zk_116 (by decide) rfl (by decide) (by decide) (Nat.le_of_ble_eq_true rfl) rfl (eX7_ends eE fE w4 pE (fun W9 o9 e9 => ?_))
      refine rr_iload (pc := 138) dX7_turns_138 rfl ?_
      exact rr_reti (pc := 140) dX7_turns_140 rfl rfl hTf.symm rfl (hq W9 (oE.tr o9.T) (by rw [e9, aTurn_eq, hTg, hTf]; unfold aFlt; rw [if_neg h53]))
    · refine eX7_turnsG e3 f2 w4 p2 hT aP2_own hft (fun W4 o4 e4 => ?_)
      have hTg : aTg a pw sd = aGood (iup a (58 + 17 * a 4 + 5) (aP a (a 4) 2)) (a 4) := by unfold aTg; rw [hTf, if_pos h53, hTm]
      have fE := aGood_wf f2 (by omega) w4 p2
      have pE : a 4 < aGood (iup a (58 + 17 * a 4 + 5) (aP a (a 4) 2)) (a 4) 2 := by rw [aGood_n f2 (by omega) w4 (by omega) (by omega) (by omega)]; exact p2
      refine rr_aload_n (pc := 131) dX7_turns_131 rfl ?_
      refine rr_iload_n (pc := 132) dX7_turns_132 rfl ?_
      refine rr_iload (pc := 133) dX7_turns_133 rfl ?_
      refine rr_inv0 (M' := MX7_ends) (k := 116) (As := [_, _]) (pc := 135) dX7_turns_135 lX7_340 kX7_ends vX7_ends zk_116 (by decide) rfl (by decide) (by decide) (Nat.le_of_ble_eq_true rfl) rfl (eX7_ends e4 fE w4 pE (fun W9 o9 e9 => ?_))
      refine rr_iload (pc := 138) dX7_turns_138 rfl ?_
      exact rr_reti (pc := 140) dX7_turns_140 rfl rfl hTf.symm rfl (hq W9 ((oB.tr o4).tr o9.T) (by rw [e9, aTurn_eq, hTg, hTf, h53]; rfl))
