/-! agreement on the 160 numbers of a row -/
def zEa (a b : Int → Int) : Prop := ∀ i : Int, 0 ≤ i → i < 160 → b i = a i
theorem zEa_F {a b : Int → Int} (h : zEa a b) : ∀ r : Nat, r ≤ 10 → aF b r = aF a r := aF_cg (fun j g1 g2 => h j (by omega) (by omega))
theorem zEa_R {a b : Int → Int} (h : zEa a b) (s : Int) : aR b s = aR a s := aR_cg (fun j g1 g2 => h j (by omega) (by omega)) s
theorem zEa_O {a b : Int → Int} (h : zEa a b) {s : Int} (h1 : 1 ≤ s) (h2 : s ≤ 20) : aO b s = aO a s := by unfold aO; rw [h _ (by omega) (by omega)]
theorem zEa_L {a b : Int → Int} (h : zEa a b) {s : Int} (h1 : 1 ≤ s) (h2 : s ≤ 20) : aL b s = aL a s := by unfold aL; rw [h _ (by omega) (by omega)]
theorem zEa_P {a b : Int → Int} (h : zEa a b) {p w : Int} (h0 : 0 ≤ p) (h6 : p < 6) (w0 : 0 ≤ w) (w17 : w < 17) : aP b p w = aP a p w := h _ (by omega) (by omega)
theorem zEa_wf {T : Int} {a b : Int → Int} (h : zEa a b) (hw : zWf T a) : zWf T b := by
  have hsq := zWf.sq hw
  obtain ⟨w0, w0', wW, w1, w2, w2', w3, w3', w4, w4', w5, w5', w6, w6', w7, w7', wS, wP, wT⟩ := hw
  unfold zWf
  rw [h 0 (by omega) (by omega), h 1 (by omega) (by omega), h 2 (by omega) (by omega), h 3 (by omega) (by omega), h 4 (by omega) (by omega), h 5 (by omega) (by omega), h 6 (by omega) (by omega), h 7 (by omega) (by omega), zEa_F h _ (by omega)]
  refine ⟨w0, w0', fun r g1 g2 => by rw [h _ (by omega) (by omega)]; exact wW r g1 g2, w1, w2, w2', w3, w3', w4, w4', w5, w5', w6, w6', w7, w7', fun s g1 g2 => ?_, fun p g1 g2 => ?_, wT⟩
  · rw [zEa_O h g1 (by omega), zEa_L h g1 (by omega)]; exact wS s g1 g2
  · have h9 := wP p g1 g2
    unfold zWfP at h9 ⊢
    rw [h 1 (by omega) (by omega), zEa_P h g1 (by omega) (by omega) (by omega), zEa_P h g1 (by omega) (by omega) (by omega), zEa_P h g1 (by omega) (by omega) (by omega), zEa_P h g1 (by omega) (by omega) (by omega), zEa_P h g1 (by omega) (by omega) (by omega), zEa_P h g1 (by omega) (by omega) (by omega), zEa_P h g1 (by omega) (by omega) (by omega), zEa_P h g1 (by omega) (by omega) (by omega), zEa_P h g1 (by omega) (by omega) (by omega)]
    exact h9
theorem zEa_op {T : Int} {a b : Int → Int} (h : zEa a b) (hw : zWf T a) {p s : Int} (h1 : 1 ≤ s) : aOpen b p s = aOpen a p s := by
  have hsq := zWf.sq hw
  exact aOpen_cg (h 1 (by omega) (by omega)) (fun s' g1 g2 => zEa_O h (by omega) (by omega))
theorem zEa_mendT {T : Int} {a b : Int → Int} (h : zEa a b) (hw : zWf T a) {p : Int} (h0 : 0 ≤ p) (h1 : p < a 2) : aMendT b p = aMendT a p := by
  have hsq := zWf.sq hw
  have w2' := hw.2.2.2.2.2.1
  have hm2 := hw.2.2.2.2.2.2.2.2.2.2.2.2.2.2.2.2.2.1 p h0 h1
  unfold zWfP at hm2
  have e2 := zEa_P h h0 (by omega) (w := 2) (by omega) (by omega)
  unfold aMendT
  rw [e2, zEa_op h hw (by omega), zEa_op h hw (by omega)]
  by_cases z : aP a p 2 = 0
  · rw [if_pos (Or.inl z), if_pos (Or.inl z)]
  · have ef : aForb b p (aP a p 2) ↔ aForb a p (aP a p 2) := by unfold aForb; rw [zEa_O h (by omega) (by omega)]
    by_cases y : aForb a p (aP a p 2)
    · rw [if_pos (Or.inr y), if_pos (Or.inr (ef.mpr y))]
    · rw [if_neg (fun u => u.elim z (fun v => y (ef.mp v))), if_neg (fun u => u.elim z y)]
theorem zEa_mend {T : Int} {a b : Int → Int} (h : zEa a b) (hw : zWf T a) : zEa (aMend a) (aMend b) := by
  have w2' := hw.2.2.2.2.2.1
  have key : ∀ n : Nat, (n : Int) ≤ a 2 → zEa (aMendN a n) (aMendN b n) := by
    intro n
    induction n with
    | zero => intro _; exact h
    | succ n ih =>
      intro hn i g1 g2
      unfold aMendN
      rw [zEa_mendT h hw (by omega) (by omega)]
      unfold iup
      split
      · rfl
      · exact ih (by omega) i g1 g2
  unfold aMend
  rw [h 2 (by omega) (by omega)]
  exact key _ (by have := hw.2.2.2.2.1; omega)
theorem zKp.cg {W : zWd} {n : Int} {K K' : Nat → (Int → Int)} (h : zKp W n K) (e : ∀ j : Nat, (j : Int) < n → zEa (K' j) (K j)) : zKp W n K' := ⟨h.1, h.2.1, h.2.2.1, fun j hj i g1 g2 => (h.2.2.2 j hj i g1 g2).trans (e j hj i g1 g2)⟩
theorem zEa.sym {a b : Int → Int} (h : zEa a b) : zEa b a := fun i g1 g2 => (h i g1 g2).symm
theorem zEa.rf {a : Int → Int} : zEa a a := fun _ _ _ => rfl
theorem zEa.tr {a b c : Int → Int} (h : zEa a b) (h2 : zEa b c) : zEa a c := fun i g1 g2 => (h2 i g1 g2).trans (h i g1 g2)
/-! targets are there -/
def zT1 (a : Int → Int) : Prop := ∀ p : Int, 0 ≤ p → p < a 2 → 1 ≤ aP a p 2
theorem sPart_t {B : Nat → Int} {N p p' : Nat} {a a' : Int → Int} {q w : Int} {wd : List Int} (hq : 0 ≤ q) (hw : 0 ≤ w) (hw9 : w ≤ 9) (h : sPart B N p a q wd w = .inr (p', a')) (ht : zT1 a) : zT1 a' := by
  have e2 := sPart_n hq hw h (j := 2) (by omega)
  intro x h0 h1
  rw [e2] at h1
  have h9 := ht x h0 h1
  unfold sPart at h
  by_cases z : sW B N p wd = true
  · rw [if_pos z] at h
    cases hs : sNr B N (if w = 3 then 0 else 1) (vHi w (a 1)) (adv B N p) with
    | inl e => rw [hs] at h; cases h
    | inr g =>
      rw [hs] at h
      have hv := sNr_in (p' := g.1) (v := g.2) hs
      have h : (.inr (g.1, iup a (58 + 17 * q + w) g.2) : zRs) = .inr (p', a') := h
      injection h with h
      injection h with h8 h7
      rw [← h7]
      unfold aP iup at *
      split
      · have hw3 : w ≠ 3 := by omega
        rw [if_neg hw3] at hv; omega
      · exact h9
  · rw [if_neg z] at h
    injection h with h
    injection h with h8 h7
    rw [← h7]; exact h9
theorem sOwn_t {B : Nat → Int} {N : Nat} {q : Int} (hq0 : 0 ≤ q) : ∀ (n p p' : Nat) (a a' : Int → Int), a 1 ≤ 20 → sOwn B N q n p a = .inr (p', a') → zT1 a → zT1 a' := by
  intro n
  induction n with
  | zero => intro p p' a a' _ h ht; cases h; exact ht
  | succ n ih =>
    intro p p' a a' h20 h ht
    by_cases z : sW B N p wOwns = true
    · rw [sOwn_s z] at h
      obtain ⟨p1, a1, g1, h⟩ := zBind_in h
      obtain ⟨v, v1, v2, v3, v4⟩ := sOwn1_in g1
      refine ih _ _ _ _ (by rw [v4, iup_n (by omega)]; exact h20) h (fun x h0 h1 => ?_)
      rw [v4] at h1 ⊢
      rw [iup_n (by omega)] at h1
      unfold aP
      rw [iup_n (by omega)]
      exact ht x h0 h1
    · rw [sOwn_0 z] at h; cases h; exact ht
theorem sParts_t {B : Nat → Int} {N p p' : Nat} {a a' : Int → Int} {q : Int} (hq : 0 ≤ q) (h20 : a 1 ≤ 20) (h : sParts B N p a q = .inr (p', a')) (ht : zT1 a) : zT1 a' := by
  obtain ⟨p1, a1, h1, h⟩ := zBind_in h
  obtain ⟨p2, a2, h2, h⟩ := zBind_in h
  obtain ⟨p3, a3, h3, h⟩ := zBind_in h
  obtain ⟨p4, a4, h4, h⟩ := zBind_in h
  obtain ⟨p5, a5, h5, h⟩ := zBind_in h
  obtain ⟨p6, a6, h6, h⟩ := zBind_in h
  rw [sSemi_n h]
  refine sPart_t hq (by decide) (by decide) h6 (sOwn_t hq _ _ _ _ _ ?_ h5 (sPart_t hq (by decide) (by decide) h4 (sPart_t hq (by decide) (by decide) h3 (sPart_t hq (by decide) (by decide) h2 (sPart_t hq (by decide) (by decide) h1 ht)))))
  rw [sPart_n hq (by decide) h4 (by omega), sPart_n hq (by decide) h3 (by omega), sPart_n hq (by decide) h2 (by omega), sPart_n hq (by decide) h1 (by omega)]
  exact h20
theorem sName_t {B : Nat → Int} {N p p' : Nat} {a a' : Int → Int} {pl : Int} (hp : 0 ≤ pl) (h : sName B N p a pl = .inr (p', a')) (ht : zT1 a) : zT1 a' := by
  unfold sName at h
  split at h
  · cases h
  · split at h
    · cases h
    · injection h with h
      injection h with h8 h7
      rw [← h7]
      intro x h0 h1
      rw [aLet_n hp (by decide)] at h1
      unfold aP
      rw [aLet_o _ (fun k g1 g2 => by omega)]
      exact ht x h0 h1
theorem sPl1_in {B : Nat → Int} {N p p' : Nat} {a a' : Int → Int} (h2 : 0 ≤ a 2) (h : sPl1 B N p a = .inr (p', a')) : a 2 ≠ 6 ∧ sW B N p wPlayer = true ∧ a' 2 = a 2 + 1 ∧ a' 0 = a 0 ∧ a' 1 = a 1 ∧ (a 1 ≤ 20 → zT1 a → zT1 a') := by
  unfold sPl1 at h
  by_cases y : ¬ sW B N p wPlayer = true
  · rw [if_pos y] at h; cases h
  · rw [if_neg y] at h
    by_cases x : a 2 = 6
    · rw [if_pos x] at h; cases h
    · rw [if_neg x] at h
      obtain ⟨p1, a1, g1, h⟩ := zBind_in h
      have e : ∀ j : Int, j < 18 → a' j = aAddP a j := fun j hj => by rw [sParts_n h2 h hj, sName_n h2 g1 (by omega)]
      refine ⟨x, Classical.byContradiction y, by rw [e 2 (by decide), aAddP_2], by rw [e 0 (by decide), aAddP_n (by decide) (by omega)], by rw [e 1 (by decide), aAddP_n (by decide) (by omega)], fun h20 ht => ?_⟩
      refine sParts_t h2 (by rw [sName_n h2 g1 (by omega), aAddP_n (by decide) (by omega)]; exact h20) h (sName_t h2 g1 (fun z h0 h1 => ?_))
      rw [aAddP_2] at h1
      by_cases w : z = a 2
      · rw [w, aAddP_p h2 (by decide) (by decide)]; decide
      · rw [aAddP_q h0 (by omega) (by decide) (by decide)]; exact ht z h0 (by omega)
theorem sPlayers_s {B : Nat → Int} {N n q p : Nat} {a : Int → Int} (h2 : a 2 = q) (h : ¬ (2 ≤ q ∧ p = N)) : sPlayers B N (n + 1) q p a = zBind (sPl1 B N p a) (fun p a => sPlayers B N n (q + 1) p a) := by
  have e : sPlayers B N (n + 1) q p a = if 2 ≤ q ∧ p = N then .inr (p, a) else if ¬ sW B N p wPlayer = true then .inl (-2, p) else if q = 6 then .inl (-5, p) else
      zBind (sName B N (adv B N p) (aAddP a) q) fun p a => zBind (sParts B N p a q) fun p a => sPlayers B N n (q + 1) p a := rfl
  rw [e]
  unfold sPl1
  rw [if_neg h]
  by_cases y : ¬ sW B N p wPlayer = true
  · rw [if_pos y, if_pos y]; rfl
  · rw [if_neg y, if_neg y]
    by_cases x : q = 6
    · rw [if_pos x, if_pos (by omega)]; rfl
    · rw [if_neg x, if_neg (by omega), zBind_assoc, ← h2]
theorem dX7_load_0 : decode cX7_load 0 = .ok (.aload_n 0, 1) := by decide +kernel
theorem dX7_load_1 : decode cX7_load 1 = .ok (.iconst 0, 1) := by decide +kernel
theorem dX7_load_2 : decode cX7_load 2 = .ok (.putfield 59, 3) := by decide +kernel
theorem dX7_load_5 : decode cX7_load 5 = .ok (.aload_n 0, 1) := by decide +kernel
theorem dX7_load_6 : decode cX7_load 6 = .ok (.iconst 0, 1) := by decide +kernel
theorem dX7_load_7 : decode cX7_load 7 = .ok (.putfield 88, 3) := by decide +kernel
theorem dX7_load_10 : decode cX7_load 10 = .ok (.aload_n 0, 1) := by decide +kernel
theorem dX7_load_11 : decode cX7_load 11 = .ok (.iconst 0, 1) := by decide +kernel
theorem dX7_load_12 : decode cX7_load 12 = .ok (.putfield 113, 3) := by decide +kernel
theorem dX7_load_15 : decode cX7_load 15 = .ok (.aload_n 0, 1) := by decide +kernel
theorem dX7_load_16 : decode cX7_load 16 = .ok (.getfield 13, 3) := by decide +kernel
theorem dX7_load_19 : decode cX7_load 19 = .ok (.iconst 0, 1) := by decide +kernel
theorem dX7_load_20 : decode cX7_load 20 = .ok (.aload_n 0, 1) := by decide +kernel
theorem dX7_load_21 : decode cX7_load 21 = .ok (.getfield 7, 3) := by decide +kernel
theorem dX7_load_24 : decode cX7_load 24 = .ok (.iconst 0, 1) := by decide +kernel
theorem dX7_load_25 : decode cX7_load 25 = .ok (.invokestatic 65, 3) := by decide +kernel
theorem dX7_load_28 : decode cX7_load 28 = .ok (.aload_n 0, 1) := by decide +kernel
theorem dX7_load_29 : decode cX7_load 29 = .ok (.invokevirtual 48, 3) := by decide +kernel
theorem dX7_load_32 : decode cX7_load 32 = .ok (.aload_n 0, 1) := by decide +kernel
theorem dX7_load_33 : decode cX7_load 33 = .ok (.invokevirtual 132, 3) := by decide +kernel
theorem dX7_load_36 : decode cX7_load 36 = .ok (.aload_n 0, 1) := by decide +kernel
theorem dX7_load_37 : decode cX7_load 37 = .ok (.aload_n 0, 1) := by decide +kernel
theorem dX7_load_38 : decode cX7_load 38 = .ok (.ldc 193, 2) := by decide +kernel
theorem dX7_load_40 : decode cX7_load 40 = .ok (.invokevirtual 138, 3) := by decide +kernel
theorem dX7_load_43 : decode cX7_load 43 = .ok (.invokevirtual 150, 3) := by decide +kernel
theorem dX7_load_46 : decode cX7_load 46 = .ok (.aload_n 0, 1) := by decide +kernel
theorem dX7_load_47 : decode cX7_load 47 = .ok (.invokevirtual 195, 3) := by decide +kernel
theorem dX7_load_50 : decode cX7_load 50 = .ok (.aload_n 0, 1) := by decide +kernel
theorem dX7_load_51 : decode cX7_load 51 = .ok (.invokevirtual 195, 3) := by decide +kernel
theorem dX7_load_54 : decode cX7_load 54 = .ok (.aload_n 0, 1) := by decide +kernel
theorem dX7_load_55 : decode cX7_load 55 = .ok (.invokevirtual 146, 3) := by decide +kernel
theorem dX7_load_58 : decode cX7_load 58 = .ok (.ifCond .eq 10, 3) := by decide +kernel
theorem dX7_load_61 : decode cX7_load 61 = .ok (.aload_n 0, 1) := by decide +kernel
theorem dX7_load_62 : decode cX7_load 62 = .ok (.invokevirtual 195, 3) := by decide +kernel
theorem dX7_load_65 : decode cX7_load 65 = .ok (.goto (-11), 3) := by decide +kernel
theorem dX7_load_68 : decode cX7_load 68 = .ok (.aload_n 0, 1) := by decide +kernel
theorem dX7_load_69 : decode cX7_load 69 = .ok (.aload_n 0, 1) := by decide +kernel
theorem dX7_load_70 : decode cX7_load 70 = .ok (.bipush 59, 2) := by decide +kernel
theorem dX7_load_72 : decode cX7_load 72 = .ok (.invokevirtual 183, 3) := by decide +kernel
theorem dX7_load_75 : decode cX7_load 75 = .ok (.invokevirtual 150, 3) := by decide +kernel
theorem dX7_load_78 : decode cX7_load 78 = .ok (.aload_n 0, 1) := by decide +kernel
theorem dX7_load_79 : decode cX7_load 79 = .ok (.ldc 198, 2) := by decide +kernel
theorem dX7_load_81 : decode cX7_load 81 = .ok (.invokevirtual 164, 3) := by decide +kernel
theorem dX7_load_84 : decode cX7_load 84 = .ok (.ifCond .eq 52, 3) := by decide +kernel
theorem dX7_load_87 : decode cX7_load 87 = .ok (.aload_n 0, 1) := by decide +kernel
theorem dX7_load_88 : decode cX7_load 88 = .ok (.bipush 45, 2) := by decide +kernel
theorem dX7_load_90 : decode cX7_load 90 = .ok (.invokevirtual 183, 3) := by decide +kernel
theorem dX7_load_93 : decode cX7_load 93 = .ok (.istore_n 1, 1) := by decide +kernel
theorem dX7_load_94 : decode cX7_load 94 = .ok (.iload_n 1, 1) := by decide +kernel
theorem dX7_load_95 : decode cX7_load 95 = .ok (.ifCond .eq 7, 3) := by decide +kernel
theorem dX7_load_98 : decode cX7_load 98 = .ok (.aload_n 0, 1) := by decide +kernel
theorem dX7_load_99 : decode cX7_load 99 = .ok (.invokevirtual 132, 3) := by decide +kernel
theorem dX7_load_102 : decode cX7_load 102 = .ok (.aload_n 0, 1) := by decide +kernel
theorem dX7_load_103 : decode cX7_load 103 = .ok (.iconst 0, 1) := by decide +kernel
theorem dX7_load_104 : decode cX7_load 104 = .ok (.bipush 9, 2) := by decide +kernel
theorem dX7_load_106 : decode cX7_load 106 = .ok (.invokevirtual 167, 3) := by decide +kernel
theorem dX7_load_109 : decode cX7_load 109 = .ok (.istore_n 2, 1) := by decide +kernel
theorem dX7_load_110 : decode cX7_load 110 = .ok (.aload_n 0, 1) := by decide +kernel
theorem dX7_load_111 : decode cX7_load 111 = .ok (.getfield 7, 3) := by decide +kernel
theorem dX7_load_114 : decode cX7_load 114 = .ok (.iconst 3, 1) := by decide +kernel
theorem dX7_load_115 : decode cX7_load 115 = .ok (.iload_n 1, 1) := by decide +kernel
theorem dX7_load_116 : decode cX7_load 116 = .ok (.ifCond .eq 8, 3) := by decide +kernel
theorem dX7_load_119 : decode cX7_load 119 = .ok (.iload_n 2, 1) := by decide +kernel
theorem dX7_load_120 : decode cX7_load 120 = .ok (.ineg, 1) := by decide +kernel
theorem dX7_load_121 : decode cX7_load 121 = .ok (.goto 4, 3) := by decide +kernel
theorem dX7_load_124 : decode cX7_load 124 = .ok (.iload_n 2, 1) := by decide +kernel
theorem dX7_load_125 : decode cX7_load 125 = .ok (.iastore, 1) := by decide +kernel
theorem dX7_load_126 : decode cX7_load 126 = .ok (.aload_n 0, 1) := by decide +kernel
theorem dX7_load_127 : decode cX7_load 127 = .ok (.aload_n 0, 1) := by decide +kernel
theorem dX7_load_128 : decode cX7_load 128 = .ok (.bipush 59, 2) := by decide +kernel
theorem dX7_load_130 : decode cX7_load 130 = .ok (.invokevirtual 183, 3) := by decide +kernel
theorem dX7_load_133 : decode cX7_load 133 = .ok (.invokevirtual 150, 3) := by decide +kernel
theorem dX7_load_136 : decode cX7_load 136 = .ok (.aload_n 0, 1) := by decide +kernel
theorem dX7_load_137 : decode cX7_load 137 = .ok (.invokevirtual 200, 3) := by decide +kernel
theorem dX7_load_140 : decode cX7_load 140 = .ok (.aload_n 0, 1) := by decide +kernel
theorem dX7_load_141 : decode cX7_load 141 = .ok (.invokevirtual 200, 3) := by decide +kernel
theorem dX7_load_144 : decode cX7_load 144 = .ok (.aload_n 0, 1) := by decide +kernel
theorem dX7_load_145 : decode cX7_load 145 = .ok (.ldc 157, 2) := by decide +kernel
theorem dX7_load_147 : decode cX7_load 147 = .ok (.invokevirtual 138, 3) := by decide +kernel
theorem dX7_load_150 : decode cX7_load 150 = .ok (.ifCond .eq 10, 3) := by decide +kernel
theorem dX7_load_153 : decode cX7_load 153 = .ok (.aload_n 0, 1) := by decide +kernel
theorem dX7_load_154 : decode cX7_load 154 = .ok (.invokevirtual 200, 3) := by decide +kernel
theorem dX7_load_157 : decode cX7_load 157 = .ok (.goto (-13), 3) := by decide +kernel
theorem dX7_load_160 : decode cX7_load 160 = .ok (.aload_n 0, 1) := by decide +kernel
theorem dX7_load_161 : decode cX7_load 161 = .ok (.getfield 113, 3) := by decide +kernel
theorem dX7_load_164 : decode cX7_load 164 = .ok (.ifCond .ne 17, 3) := by decide +kernel
theorem dX7_load_167 : decode cX7_load 167 = .ok (.aload_n 0, 1) := by decide +kernel
theorem dX7_load_168 : decode cX7_load 168 = .ok (.getfield 97, 3) := by decide +kernel
theorem dX7_load_171 : decode cX7_load 171 = .ok (.iconst 3, 1) := by decide +kernel
theorem dX7_load_172 : decode cX7_load 172 = .ok (.if_icmp .eq 9, 3) := by decide +kernel
theorem dX7_load_175 : decode cX7_load 175 = .ok (.aload_n 0, 1) := by decide +kernel
theorem dX7_load_176 : decode cX7_load 176 = .ok (.bipush (-2), 2) := by decide +kernel
theorem dX7_load_178 : decode cX7_load 178 = .ok (.invokevirtual 129, 3) := by decide +kernel
theorem dX7_load_181 : decode cX7_load 181 = .ok (.aload_n 0, 1) := by decide +kernel
theorem dX7_load_182 : decode cX7_load 182 = .ok (.aload_n 0, 1) := by decide +kernel
theorem dX7_load_183 : decode cX7_load 183 = .ok (.getfield 113, 3) := by decide +kernel
theorem dX7_load_186 : decode cX7_load 186 = .ok (.ifCond .ne 7, 3) := by decide +kernel
theorem dX7_load_189 : decode cX7_load 189 = .ok (.iconst (-1), 1) := by decide +kernel
theorem dX7_load_190 : decode cX7_load 190 = .ok (.goto 7, 3) := by decide +kernel
theorem dX7_load_193 : decode cX7_load 193 = .ok (.aload_n 0, 1) := by decide +kernel
theorem dX7_load_194 : decode cX7_load 194 = .ok (.getfield 126, 3) := by decide +kernel
theorem dX7_load_197 : decode cX7_load 197 = .ok (.putfield 32, 3) := by decide +kernel
theorem dX7_load_200 : decode cX7_load 200 = .ok (.aload_n 0, 1) := by decide +kernel
theorem dX7_load_201 : decode cX7_load 201 = .ok (.iconst 0, 1) := by decide +kernel
theorem dX7_load_202 : decode cX7_load 202 = .ok (.putfield 81, 3) := by decide +kernel
theorem dX7_load_205 : decode cX7_load 205 = .ok (.aload_n 0, 1) := by decide +kernel
theorem dX7_load_206 : decode cX7_load 206 = .ok (.getfield 113, 3) := by decide +kernel
theorem dX7_load_209 : decode cX7_load 209 = .ok (.ifCond .eq 16, 3) := by decide +kernel
theorem dX7_load_212 : decode cX7_load 212 = .ok (.aload_n 0, 1) := by decide +kernel
theorem dX7_load_213 : decode cX7_load 213 = .ok (.getfield 7, 3) := by decide +kernel
theorem dX7_load_216 : decode cX7_load 216 = .ok (.iconst 0, 1) := by decide +kernel
theorem dX7_load_217 : decode cX7_load 217 = .ok (.aload_n 0, 1) := by decide +kernel
theorem dX7_load_218 : decode cX7_load 218 = .ok (.getfield 13, 3) := by decide +kernel
theorem dX7_load_221 : decode cX7_load 221 = .ok (.iconst 0, 1) := by decide +kernel
theorem dX7_load_222 : decode cX7_load 222 = .ok (.invokestatic 65, 3) := by decide +kernel
theorem dX7_load_225 : decode cX7_load 225 = .ok (.aload_n 0, 1) := by decide +kernel
theorem dX7_load_226 : decode cX7_load 226 = .ok (.getfield 113, 3) := by decide +kernel
theorem dX7_load_229 : decode cX7_load 229 = .ok (.ifCond .eq 8, 3) := by decide +kernel
theorem dX7_load_232 : decode cX7_load 232 = .ok (.aload_n 0, 1) := by decide +kernel
theorem dX7_load_233 : decode cX7_load 233 = .ok (.getfield 113, 3) := by decide +kernel
theorem dX7_load_236 : decode cX7_load 236 = .ok (.ireturn, 1) := by decide +kernel
theorem dX7_load_237 : decode cX7_load 237 = .ok (.iconst 0, 1) := by decide +kernel
theorem dX7_load_238 : decode cX7_load 238 = .ok (.istore_n 1, 1) := by decide +kernel
theorem dX7_load_239 : decode cX7_load 239 = .ok (.iload_n 1, 1) := by decide +kernel
theorem dX7_load_240 : decode cX7_load 240 = .ok (.aload_n 0, 1) := by decide +kernel
theorem dX7_load_241 : decode cX7_load 241 = .ok (.invokevirtual 203, 3) := by decide +kernel
theorem dX7_load_244 : decode cX7_load 244 = .ok (.if_icmp .ge 14, 3) := by decide +kernel
theorem dX7_load_247 : decode cX7_load 247 = .ok (.aload_n 0, 1) := by decide +kernel
theorem dX7_load_248 : decode cX7_load 248 = .ok (.iload_n 1, 1) := by decide +kernel
theorem dX7_load_249 : decode cX7_load 249 = .ok (.invokevirtual 206, 3) := by decide +kernel
theorem dX7_load_252 : decode cX7_load 252 = .ok (.iinc 1 1, 3) := by decide +kernel
theorem dX7_load_255 : decode cX7_load 255 = .ok (.goto (-16), 3) := by decide +kernel
theorem dX7_load_258 : decode cX7_load 258 = .ok (.aload_n 0, 1) := by decide +kernel
theorem dX7_load_259 : decode cX7_load 259 = .ok (.aload_n 0, 1) := by decide +kernel
theorem dX7_load_260 : decode cX7_load 260 = .ok (.getfield 13, 3) := by decide +kernel
theorem dX7_load_263 : decode cX7_load 263 = .ok (.invokevirtual 73, 3) := by decide +kernel
theorem dX7_load_266 : decode cX7_load 266 = .ok (.aload_n 0, 1) := by decide +kernel
theorem dX7_load_267 : decode cX7_load 267 = .ok (.invokevirtual 209, 3) := by decide +kernel
theorem dX7_load_270 : decode cX7_load 270 = .ok (.ireturn, 1) := by decide +kernel
/-! load -/
theorem eX7_ldRowsB {W : zWd} {d c : Int} {p : Nat} {x1 x2 : Value} {Q : Option Value → zWd → Prop} {X : zX} (h : zBd W d c p) (tail : ∀ W' : zWd, zOfR W W' → zBd W' d c p → RR MX7_load 8 0 W' 78 [.ref 116, x1, x2] [] (zEnd MX7_load Q X) X) : RR MX7_load 8 0 W 54 [.ref 116, x1, x2] [] (zEnd MX7_load Q X) X := by
  refine rr_aload_n (pc := 54) dX7_load_54 rfl ?_
  refine rr_inv0 (M' := MX7_isRow) (k := 116) (As := []) (pc := 55) dX7_load_55 lX7_146 kX7_isRow vX7_isRow zk_116 (by decide) rfl (by decide) (by decide) (Nat.le_of_ble_eq_true rfl) rfl (eX7_isRow (r := .inl (c, p)) (B := fun _ => 0) (N := 0) h ?_)
  refine rr_if_eq (pc := 58) (tgt := 68) dX7_load_58 (by decide) (by split <;> (unfold zR; omega)) (fun h58 => ?_) (fun h58 => ?_)
  · refine rr_aload_n (pc := 68) dX7_load_68 rfl ?_
    refine rr_aload_n (pc := 69) dX7_load_69 rfl ?_
    refine rr_bipush (n := (59)) dX7_load_70 ?_
    refine rr_inv0 (M' := MX7_isSign) (k := 116) (As := [_]) (pc := 72) dX7_load_72 lX7_183 kX7_isSign vX7_isSign zk_116 (by decide) rfl (by decide) (by decide) (Nat.le_of_ble_eq_true rfl) rfl (eX7_isSignB h ?_)
    refine rr_inv0 (M' := MX7_must) (k := 116) (As := [_]) (pc := 75) dX7_load_75 lX7_150 kX7_must vX7_must zk_116 (by decide) rfl (by decide) (by decide) (Nat.le_of_ble_eq_true rfl) rfl (eX7_mustB h (by unfold zR; omega) ?_)
    exact tail W zOfR.rf h
  · exact (h58 rfl).elim
theorem eX7_ldRows {B : Nat → Int} {N : Nat} {x1 x2 : Value} {Q : Option Value → zWd → Prop} {X : zX} : ∀ (n : Nat) (W : zWd) (p : Nat) (a : Int → Int), zMR W B N 0 (.inr (p, a)) → 2 ≤ a 0 → a 0 + n = 11 → (∀ W' : zWd, zOfR W W' → zMR W' B N 0 (sRows B N n (a 0).toNat p a) → RR MX7_load 8 0 W' 78 [.ref 116, x1, x2] [] (zEnd MX7_load Q X) X) → RR MX7_load 8 0 W 54 [.ref 116, x1, x2] [] (zEnd MX7_load Q X) X := by
  intro n
  induction n with
  | zero => intro W p a h h2 hn; have := h.2.2.1.2.1; have h9 : a 0 ≤ 10 := this; omega
  | succ n ih =>
    intro W p a h h2 hn tail
    refine rr_aload_n (pc := 54) dX7_load_54 rfl ?_
    refine rr_inv0 (M' := MX7_isRow) (k := 116) (As := []) (pc := 55) dX7_load_55 lX7_146 kX7_isRow vX7_isRow zk_116 (by decide) rfl (by decide) (by decide) (Nat.le_of_ble_eq_true rfl) rfl (eX7_isRow h ?_)
    refine rr_if_eq (pc := 58) (tgt := 68) dX7_load_58 (by decide) (by split <;> (unfold zR; omega)) (fun h58 => ?_) (fun h58 => ?_)
    · refine rr_aload_n (pc := 68) dX7_load_68 rfl ?_
      refine rr_aload_n (pc := 69) dX7_load_69 rfl ?_
      refine rr_bipush (n := (59)) dX7_load_70 ?_
      have hnr := z_i10 h58
      refine rr_inv0 (M' := MX7_isSign) (k := 116) (As := [_]) (pc := 72) dX7_load_72 lX7_183 kX7_isSign vX7_isSign zk_116 (by decide) rfl (by decide) (by decide) (Nat.le_of_ble_eq_true rfl) rfl (eX7_isSign h (Or.inl rfl) ?_)
      refine rr_inv0 (M' := MX7_must) (k := 116) (As := [_]) (pc := 75) dX7_load_75 lX7_150 kX7_must vX7_must zk_116 (by decide) rfl (by decide) (by decide) (Nat.le_of_ble_eq_true rfl) rfl (eX7_must h (fun W1 o1 r1 => ?_))
      rw [sSemi_m] at r1
      refine tail W1 o1 ?_
      have hw0 : sWide B N p = 0 := Classical.byContradiction fun z => hnr (sWide_row.mpr z)
      rw [show sRows B N (n + 1) (a 0).toNat p a = sSemi B N p a by unfold sRows; rw [if_pos hw0, if_neg (by omega)]]
      exact r1
    · refine rr_aload_n (pc := 61) dX7_load_61 rfl ?_
      have hir := sWide_row.mp (z_i10n h58)
      refine rr_inv0 (M' := MX7_readsRow) (k := 116) (As := []) (pc := 62) dX7_load_62 lX7_195 kX7_readsRow vX7_readsRow zk_116 (by decide) rfl (by decide) (by decide) (Nat.le_of_ble_eq_true rfl) rfl (eX7_readsRow h (fun W1 o1 r1 => ?_))
      have r1 : zMR W1 B N 0 (sRow1 B N p a) := r1
      refine rr_goto (pc := 65) (tgt := 54) dX7_load_65 (by decide) ?_
      by_cases h10 : a 0 = 10
      · have hS : sRow1 B N p a = .inl (-5, p) := by unfold sRow1; rw [if_neg hir, if_pos h10]
        rw [hS] at r1
        refine eX7_ldRowsB r1 (fun W' o' h' => tail W' (o1.tr o') ?_)
        rw [show sRows B N (n + 1) (a 0).toNat p a = .inl (-5, p) by unfold sRows; rw [if_neg hir, if_pos (by omega)]]
        exact h'
      · have hS : sRow1 B N p a = .inr (adv B N p, aRow a (sWide B N p)) := by unfold sRow1; rw [if_neg hir, if_neg h10]
        rw [hS] at r1
        refine ih W1 _ _ r1 (by rw [aRow_0]; omega) (by rw [aRow_0]; omega) (fun W' o' h' => tail W' (o1.tr o') ?_)
        rw [show sRows B N (n + 1) (a 0).toNat p a = sRows B N n ((a 0).toNat + 1) (adv B N p) (aRow a (sWide B N p)) by
          show (if _ then _ else if _ then _ else _) = _
          rw [if_neg hir, if_neg (by omega)]]
        rw [show (aRow a (sWide B N p) 0).toNat = (a 0).toNat + 1 by rw [aRow_0]; omega] at h'
        exact h'
theorem eX7_ldDrift {W : zWd} {B : Nat → Int} {N : Nat} {r : zRs} {x1 x2 : Value} {Q : Option Value → zWd → Prop} {X : zX} (h : zMR W B N 0 r) (tail : ∀ (W' : zWd) (x1 x2 : Value), zOfR W W' → zMR W' B N 0 (zBind r (sDrift B N)) → RR MX7_load 8 0 W' 136 [.ref 116, x1, x2] [] (zEnd MX7_load Q X) X) : RR MX7_load 8 0 W 78 [.ref 116, x1, x2] [] (zEnd MX7_load Q X) X := by
  cases r with
  | inl e =>
    refine rr_aload_n (pc := 78) dX7_load_78 rfl ?_
    refine rr_ldcs (pc := 79) 14 dX7_load_79 rfl ?_
    refine rr_inv0 (M' := MX7_isTaken) (k := 116) (As := [_]) (pc := 81) dX7_load_81 lX7_164 kX7_isTaken vX7_isTaken zk_116 (by decide) rfl (by decide) (by decide) (Nat.le_of_ble_eq_true rfl) rfl (eTB h (by decide) ?_)
    refine rr_if_eq (pc := 84) (tgt := 136) dX7_load_84 (by decide) (by unfold zR; omega) (fun h84 => ?_) (fun h84 => ?_)
    · exact tail W _ _ zOfR.rf h
    · exact (h84 rfl).elim
  | inr g =>
    obtain ⟨p, a⟩ := g
    have tail : ∀ (W' : zWd) (x1 x2 : Value), zOfR W W' → zMR W' B N 0 (sDrift B N p a) → RR MX7_load 8 0 W' 136 [.ref 116, x1, x2] [] (zEnd MX7_load Q X) X := tail
    have hM := h
    obtain ⟨hG, hRw, hPf⟩ : zGd W B N p ∧ zRw W 0 a ∧ zPs a := id h
    refine rr_aload_n (pc := 78) dX7_load_78 rfl ?_
    refine rr_ldcs (pc := 79) 14 dX7_load_79 rfl ?_
    refine rr_inv0 (M' := MX7_isTaken) (k := 116) (As := [_]) (pc := 81) dX7_load_81 lX7_164 kX7_isTaken vX7_isTaken zk_116 (by decide) rfl (by decide) (by decide) (Nat.le_of_ble_eq_true rfl) rfl (eT_Drift h (fun hn => ?_) (fun hn W1 o1 r1 => ?_))
    · refine rr_if_eq (pc := 84) (tgt := 136) dX7_load_84 (by decide) (by unfold zR; omega) (fun h => ?_) (fun h => by omega)
      exact tail W _ _ zOfR.rf (by rw [show sDrift B N p a = .inr (p, a) from if_neg hn]; exact hM)
    · refine rr_if_eq (pc := 84) (tgt := 136) dX7_load_84 (by decide) (by unfold zR; omega) (fun h => by omega) (fun h => ?_)
      refine rr_aload_n (pc := 87) dX7_load_87 rfl ?_
      refine rr_bipush (n := (45)) dX7_load_88 ?_
      refine rr_inv0 (M' := MX7_isSign) (k := 116) (As := [_]) (pc := 90) dX7_load_90 lX7_183 kX7_isSign vX7_isSign zk_116 (by decide) rfl (by decide) (by decide) (Nat.le_of_ble_eq_true rfl) rfl (eX7_isSign r1 (Or.inr rfl) ?_)
      refine rr_istore_n (pc := 93) dX7_load_93 (by decide) ?_
      refine rr_iload_n (pc := 94) dX7_load_94 rfl ?_
      refine rr_if_eq (pc := 95) (tgt := 102) dX7_load_95 (by decide) (by split <;> (unfold zR; omega)) (fun h95 => ?_) (fun h95 => ?_)
      · have hsg : ¬ (adv B N p < N ∧ B (adv B N p) = 45) := fun z => z_i10 h95 (decide_eq_true z)
        refine rr_aload_n (pc := 102) dX7_load_102 rfl ?_
        refine rr_iconst (n := 0) dX7_load_103 ?_
        refine rr_bipush (n := (9)) dX7_load_104 ?_
        refine rr_inv0 (M' := MX7_takes) (k := 116) (As := [_, _]) (pc := 106) dX7_load_106 lX7_167 kX7_takes vX7_takes zk_116 (by decide) rfl (by decide) (by decide) (Nat.le_of_ble_eq_true rfl) rfl (eX7_takes r1 (by unfold zR; omega) (by unfold zR; omega) (fun c hs W4 o4 r4 => ?_) (fun p9 v hs W4 o4 r4 => ?_))
        · refine rr_istore_n (pc := 109) dX7_load_109 (by decide) ?_
          refine rr_aload_n (pc := 110) dX7_load_110 rfl ?_
          refine rr_getR (pc := 111) dX7_load_111 fX7_7 zk_116 zr_116_0 ?_
          refine rr_iconst (n := 3) dX7_load_114 ?_
          refine rr_iload_n (pc := 115) dX7_load_115 rfl ?_
          refine rr_if_eq (pc := 116) (tgt := 124) dX7_load_116 (by decide) (by split <;> (unfold zR; omega)) (fun h116 => ?_) (fun h116 => ?_)
          · refine rr_iload_n (pc := 124) dX7_load_124 rfl ?_
            refine rr_iast (pc := 125) dX7_load_125 zk_117 (by omega) (by omega) ?_
            have r5 : zMR (zup W4 117 3 0) B N 0 (.inl (c, (adv B N p))) := zBd.w (c := c) (p := (adv B N p)) r4 zOfm.rf.up zup_at (by decide)
            have o5 : zOfR W (zup W4 117 3 0) := (o1.tr o4).tr zOfm.rf.up.R
            generalize zup W4 117 3 0 = W5 at r5 o5 ⊢
            refine rr_aload_n (pc := 126) dX7_load_126 rfl ?_
            refine rr_aload_n (pc := 127) dX7_load_127 rfl ?_
            refine rr_bipush (n := (59)) dX7_load_128 ?_
            refine rr_inv0 (M' := MX7_isSign) (k := 116) (As := [_]) (pc := 130) dX7_load_130 lX7_183 kX7_isSign vX7_isSign zk_116 (by decide) rfl (by decide) (by decide) (Nat.le_of_ble_eq_true rfl) rfl (eX7_isSign r5 (Or.inl rfl) ?_)
            refine rr_inv0 (M' := MX7_must) (k := 116) (As := [_]) (pc := 133) dX7_load_133 lX7_150 kX7_must vX7_must zk_116 (by decide) rfl (by decide) (by decide) (Nat.le_of_ble_eq_true rfl) rfl (eX7_must r5 (fun W6 o6 r6 => ?_))
            rw [sSemi_m] at r6
            refine tail W6 _ _ (o5.tr o6) ?_
            rw [show sDrift B N p a = .inl (c, (adv B N p)) by unfold sDrift; rw [if_pos hn]; rw [if_neg hsg]; rw [hs]]
            exact r6
          · exact absurd h95 h116
        · refine rr_istore_n (pc := 109) dX7_load_109 (by decide) ?_
          refine rr_aload_n (pc := 110) dX7_load_110 rfl ?_
          refine rr_getR (pc := 111) dX7_load_111 fX7_7 zk_116 zr_116_0 ?_
          refine rr_iconst (n := 3) dX7_load_114 ?_
          refine rr_iload_n (pc := 115) dX7_load_115 rfl ?_
          refine rr_if_eq (pc := 116) (tgt := 124) dX7_load_116 (by decide) (by split <;> (unfold zR; omega)) (fun h116 => ?_) (fun h116 => ?_)
          · refine rr_iload_n (pc := 124) dX7_load_124 rfl ?_
            refine rr_iast (pc := 125) dX7_load_125 zk_117 (by omega) (by omega) ?_
            have hv9 := sNr_in hs
            have r5 : zMR (zup W4 117 3 v) B N 0 (.inr (p9, iup a 3 v)) := zMR.w r4 zOfm.rf.up zup_at (by decide) (zPf_3 hPf.1 (by omega) (by omega)) (by omega) (by omega)
            have o5 : zOfR W (zup W4 117 3 v) := (o1.tr o4).tr zOfm.rf.up.R
            generalize zup W4 117 3 v = W5 at r5 o5 ⊢
            refine rr_aload_n (pc := 126) dX7_load_126 rfl ?_
            refine rr_aload_n (pc := 127) dX7_load_127 rfl ?_
            refine rr_bipush (n := (59)) dX7_load_128 ?_
            refine rr_inv0 (M' := MX7_isSign) (k := 116) (As := [_]) (pc := 130) dX7_load_130 lX7_183 kX7_isSign vX7_isSign zk_116 (by decide) rfl (by decide) (by decide) (Nat.le_of_ble_eq_true rfl) rfl (eX7_isSign r5 (Or.inl rfl) ?_)
            refine rr_inv0 (M' := MX7_must) (k := 116) (As := [_]) (pc := 133) dX7_load_133 lX7_150 kX7_must vX7_must zk_116 (by decide) rfl (by decide) (by decide) (Nat.le_of_ble_eq_true rfl) rfl (eX7_must r5 (fun W6 o6 r6 => ?_))
            rw [sSemi_m] at r6
            refine tail W6 _ _ (o5.tr o6) ?_
            rw [show sDrift B N p a = sSemi B N p9 (iup a 3 v) by unfold sDrift; rw [if_pos hn]; rw [if_neg hsg]; rw [hs]]
            exact r6
          · exact absurd h95 h116
      · refine rr_aload_n (pc := 98) dX7_load_98 rfl ?_
        have hsg : adv B N p < N ∧ B (adv B N p) = 45 := of_decide_eq_true (z_i10n h95)
        refine rr_inv0 (M' := MX7_next) (k := 116) (As := []) (pc := 99) dX7_load_99 lX7_132 kX7_next vX7_next zk_116 (by decide) rfl (by decide) (by decide) (Nat.le_of_ble_eq_true rfl) rfl (eX7_nextG r1 (fun W3 o3 r3 => ?_))
        rw [sEd_s (Or.inr rfl) hsg.1 hsg.2] at r3
        refine rr_aload_n (pc := 102) dX7_load_102 rfl ?_
        refine rr_iconst (n := 0) dX7_load_103 ?_
        refine rr_bipush (n := (9)) dX7_load_104 ?_
        refine rr_inv0 (M' := MX7_takes) (k := 116) (As := [_, _]) (pc := 106) dX7_load_106 lX7_167 kX7_takes vX7_takes zk_116 (by decide) rfl (by decide) (by decide) (Nat.le_of_ble_eq_true rfl) rfl (eX7_takes r3 (by unfold zR; omega) (by unfold zR; omega) (fun c hs W4 o4 r4 => ?_) (fun p9 v hs W4 o4 r4 => ?_))
        · refine rr_istore_n (pc := 109) dX7_load_109 (by decide) ?_
          refine rr_aload_n (pc := 110) dX7_load_110 rfl ?_
          refine rr_getR (pc := 111) dX7_load_111 fX7_7 zk_116 zr_116_0 ?_
          refine rr_iconst (n := 3) dX7_load_114 ?_
          refine rr_iload_n (pc := 115) dX7_load_115 rfl ?_
          refine rr_if_eq (pc := 116) (tgt := 124) dX7_load_116 (by decide) (by split <;> (unfold zR; omega)) (fun h116 => ?_) (fun h116 => ?_)
          · exact absurd h116 h95
          · refine rr_iload_n (pc := 119) dX7_load_119 rfl ?_
            refine rr_ineg (pc := 120) dX7_load_120 ?_
            refine rr_goto (pc := 121) (tgt := 125) dX7_load_121 (by decide) ?_
            refine rr_iast (pc := 125) dX7_load_125 zk_117 (by omega) (by omega) ?_
            have r5 : zMR (zup W4 117 3 (-0)) B N 0 (.inl (c, (sSk B N (adv B N p + 1)))) := zBd.w (c := c) (p := (sSk B N (adv B N p + 1))) r4 zOfm.rf.up zup_at (by decide)
            have o5 : zOfR W (zup W4 117 3 (-0)) := ((o1.tr o3.R).tr o4).tr zOfm.rf.up.R
            generalize zup W4 117 3 (-0) = W5 at r5 o5 ⊢
            refine rr_aload_n (pc := 126) dX7_load_126 rfl ?_
            refine rr_aload_n (pc := 127) dX7_load_127 rfl ?_
            refine rr_bipush (n := (59)) dX7_load_128 ?_
            refine rr_inv0 (M' := MX7_isSign) (k := 116) (As := [_]) (pc := 130) dX7_load_130 lX7_183 kX7_isSign vX7_isSign zk_116 (by decide) rfl (by decide) (by decide) (Nat.le_of_ble_eq_true rfl) rfl (eX7_isSign r5 (Or.inl rfl) ?_)
            refine rr_inv0 (M' := MX7_must) (k := 116) (As := [_]) (pc := 133) dX7_load_133 lX7_150 kX7_must vX7_must zk_116 (by decide) rfl (by decide) (by decide) (Nat.le_of_ble_eq_true rfl) rfl (eX7_must r5 (fun W6 o6 r6 => ?_))
            rw [sSemi_m] at r6
            refine tail W6 _ _ (o5.tr o6) ?_
            rw [show sDrift B N p a = .inl (c, (sSk B N (adv B N p + 1))) by unfold sDrift; rw [if_pos hn]; rw [if_pos hsg]; rw [hs]]
            exact r6
        · refine rr_istore_n (pc := 109) dX7_load_109 (by decide) ?_
          refine rr_aload_n (pc := 110) dX7_load_110 rfl ?_
          refine rr_getR (pc := 111) dX7_load_111 fX7_7 zk_116 zr_116_0 ?_
          refine rr_iconst (n := 3) dX7_load_114 ?_
          refine rr_iload_n (pc := 115) dX7_load_115 rfl ?_
          refine rr_if_eq (pc := 116) (tgt := 124) dX7_load_116 (by decide) (by split <;> (unfold zR; omega)) (fun h116 => ?_) (fun h116 => ?_)
          · exact absurd h116 h95
          · refine rr_iload_n (pc := 119) dX7_load_119 rfl ?_
            refine rr_ineg (pc := 120) dX7_load_120 ?_
            refine rr_goto (pc := 121) (tgt := 125) dX7_load_121 (by decide) ?_
            refine rr_iast (pc := 125) dX7_load_125 zk_117 (by omega) (by omega) ?_
            have hv9 := sNr_in hs
            have r5 : zMR (zup W4 117 3 (-v)) B N 0 (.inr (p9, iup a 3 (-v))) := zMR.w r4 zOfm.rf.up zup_at (by decide) (zPf_3 hPf.1 (by omega) (by omega)) (by omega) (by omega)
            have o5 : zOfR W (zup W4 117 3 (-v)) := ((o1.tr o3.R).tr o4).tr zOfm.rf.up.R
            generalize zup W4 117 3 (-v) = W5 at r5 o5 ⊢
            refine rr_aload_n (pc := 126) dX7_load_126 rfl ?_
            refine rr_aload_n (pc := 127) dX7_load_127 rfl ?_
            refine rr_bipush (n := (59)) dX7_load_128 ?_
            refine rr_inv0 (M' := MX7_isSign) (k := 116) (As := [_]) (pc := 130) dX7_load_130 lX7_183 kX7_isSign vX7_isSign zk_116 (by decide) rfl (by decide) (by decide) (Nat.le_of_ble_eq_true rfl) rfl (eX7_isSign r5 (Or.inl rfl) ?_)
            refine rr_inv0 (M' := MX7_must) (k := 116) (As := [_]) (pc := 133) dX7_load_133 lX7_150 kX7_must vX7_must zk_116 (by decide) rfl (by decide) (by decide) (Nat.le_of_ble_eq_true rfl) rfl (eX7_must r5 (fun W6 o6 r6 => ?_))
            rw [sSemi_m] at r6
            refine tail W6 _ _ (o5.tr o6) ?_
            rw [show sDrift B N p a = sSemi B N p9 (iup a 3 (-v)) by unfold sDrift; rw [if_pos hn]; rw [if_pos hsg]; rw [hs]]
            exact r6
theorem eX7_ldPlB {W : zWd} {d c : Int} {p : Nat} {x1 x2 : Value} {Q : Option Value → zWd → Prop} {X : zX} (h : zBd W d c p) (tail : ∀ W' : zWd, zOfR W W' → zBd W' d c p → RR MX7_load 8 0 W' 181 [.ref 116, x1, x2] [] (zEnd MX7_load Q X) X) : RR MX7_load 8 0 W 144 [.ref 116, x1, x2] [] (zEnd MX7_load Q X) X := by
  refine rr_aload_n (pc := 144) dX7_load_144 rfl ?_
  refine rr_ldcs (pc := 145) 15 dX7_load_145 rfl ?_
  refine rr_inv0 (M' := MX7_isWord) (k := 116) (As := [_]) (pc := 147) dX7_load_147 lX7_138 kX7_isWord vX7_isWord zk_116 (by decide) rfl (by decide) (by decide) (Nat.le_of_ble_eq_true rfl) rfl (eWB h (by decide) ?_)
  refine rr_if_eq (pc := 150) (tgt := 160) dX7_load_150 (by decide) (by unfold zR; omega) (fun h150 => ?_) (fun h150 => ?_)
  · refine rr_aload_n (pc := 160) dX7_load_160 rfl ?_
    refine rr_getI (pc := 161) (ji := 14) dX7_load_161 fX7_113 zk_116 zr_116_14 rfl ?_
    refine rr_if_ne (pc := 164) (tgt := 181) dX7_load_164 (by decide) h.z.1 (fun h164 => ?_) (fun h164 => ?_)
    · exact tail W zOfR.rf h
    · exact absurd h164 h.z.2
  · exact (h150 rfl).elim
theorem eX7_ldPl {B : Nat → Int} {N : Nat} {x1 x2 : Value} {Q : Option Value → zWd → Prop} {X : zX} : ∀ (n : Nat) (W : zWd) (q p : Nat) (a : Int → Int), zMR W B N 0 (.inr (p, a)) → a 2 = q → 2 ≤ q → 1 ≤ a 1 → q + n = 7 → (∀ W' : zWd, zOfR W W' → zMR W' B N 0 (sPlayers B N n q p a) → RR MX7_load 8 0 W' 181 [.ref 116, x1, x2] [] (zEnd MX7_load Q X) X) → RR MX7_load 8 0 W 144 [.ref 116, x1, x2] [] (zEnd MX7_load Q X) X := by
  intro n
  induction n with
  | zero => intro W q p a h hq2 hq h1a hn; have h9 : a 2 ≤ 6 := h.2.2.1.2.2.2.2.2.1; omega
  | succ n ih =>
    intro W q p a h hq2 hq h1a hn tail
    refine rr_aload_n (pc := 144) dX7_load_144 rfl ?_
    refine rr_ldcs (pc := 145) 15 dX7_load_145 rfl ?_
    refine rr_inv0 (M' := MX7_isWord) (k := 116) (As := [_]) (pc := 147) dX7_load_147 lX7_138 kX7_isWord vX7_isWord zk_116 (by decide) rfl (by decide) (by decide) (Nat.le_of_ble_eq_true rfl) rfl (eG_Player h ?_)
    refine rr_if_eq (pc := 150) (tgt := 160) dX7_load_150 (by decide) (by split <;> (unfold zR; omega)) (fun h150 => ?_) (fun h150 => ?_)
    · refine rr_aload_n (pc := 160) dX7_load_160 rfl ?_
      refine rr_getI (pc := 161) (ji := 14) dX7_load_161 fX7_113 zk_116 zr_116_14 rfl ?_
      rw [h.1.2.2]
      refine rr_if_ne (pc := 164) (tgt := 181) dX7_load_164 (by decide) (by unfold zR; omega) (fun h164 => ?_) (fun h164 => ?_)
      · exact absurd rfl h164
      · refine rr_aload_n (pc := 167) dX7_load_167 rfl ?_
        have hmk := h.1.2.1
        have hkr := @sKd_rng B N p
        refine rr_getI (pc := 168) (ji := 12) dX7_load_168 fX7_97 zk_116 zr_116_12 rfl ?_
        rw [show W 116 12 = sKd B N p from hmk.2.2.2.1]
        refine rr_iconst (n := 3) dX7_load_171 ?_
        refine rr_icmp_eq (pc := 172) (tgt := 181) dX7_load_172 (by decide) (by unfold zR; omega) (by unfold zR; omega) (fun h172 => ?_) (fun h172 => ?_)
        · have hpe := (sKd_3 hmk.2.1).mp h172
          exact tail W zOfR.rf (by unfold sPlayers; rw [if_pos ⟨hq, hpe⟩]; exact h)
        · refine rr_aload_n (pc := 175) dX7_load_175 rfl ?_
          refine rr_bipush (n := (-2)) dX7_load_176 ?_
          refine rr_inv0 (M' := MX7_fails) (k := 116) (As := [_]) (pc := 178) dX7_load_178 lX7_129 kX7_fails vX7_fails zk_116 (by decide) rfl (by decide) (by decide) (Nat.le_of_ble_eq_true rfl) rfl (eX7_failsG h (by decide) (by decide) (fun W1 o1 r1 => ?_))
          have hpe : ¬ p = N := fun z => h172 ((sKd_3 hmk.2.1).mpr z)
          exact tail W1 o1.R (by unfold sPlayers; rw [if_neg (fun z => hpe z.2), if_pos (z_i10 h150)]; exact r1)
    · refine rr_aload_n (pc := 153) dX7_load_153 rfl ?_
      have hip := z_i10n h150
      have hpN : ¬ p = N := fun z => by have h9 := sKd_0.mp (sW_kd zN_Player hip); omega
      refine rr_inv0 (M' := MX7_readsPlayer) (k := 116) (As := []) (pc := 154) dX7_load_154 lX7_200 kX7_readsPlayer vX7_readsPlayer zk_116 (by decide) rfl (by decide) (by decide) (Nat.le_of_ble_eq_true rfl) rfl (eX7_readsPlayer h (fun g hg => by injection hg with hg; rw [← hg]; exact h1a) (fun W1 o1 r1 => ?_))
      have r1 : zMR W1 B N 0 (sPl1 B N p a) := r1
      have hS := sPlayers_s (B := B) (N := N) (n := n) (p := p) hq2 (fun z => hpN z.2)
      refine rr_goto (pc := 157) (tgt := 144) dX7_load_157 (by decide) ?_
      cases hr : sPl1 B N p a with
      | inl e =>
        rw [hr] at r1 hS
        exact eX7_ldPlB r1 (fun W' o' h' => tail W' (o1.tr o') (by rw [hS]; exact h'))
      | inr g =>
        obtain ⟨p9, a9⟩ := g
        rw [hr] at r1 hS
        obtain ⟨s1, s2, s3, s4, s5, s6⟩ := sPl1_in (by omega) hr
        exact ih W1 (q + 1) p9 a9 r1 (by omega) (by omega) (by rw [s5]; exact h1a) (by omega) (fun W' o' h' => tail W' (o1.tr o') (by rw [hS]; exact h'))
