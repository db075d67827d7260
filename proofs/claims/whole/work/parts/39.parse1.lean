/-- a player is added -/
def aAddP (a : Int → Int) : Int → Int := fun j => if j = 2 then a 2 + 1 else if 58 + 17 * a 2 ≤ j ∧ j < 58 + 17 * a 2 + 17 then (if j = 58 + 17 * a 2 then 2 else if j = 58 + 17 * a 2 + 1 then 3 else if j = 58 + 17 * a 2 + 2 then 1 else 0) else a j
theorem aAddP_2 {a : Int → Int} : aAddP a 2 = a 2 + 1 := if_pos rfl
theorem aAddP_n {a : Int → Int} {j : Int} (h2 : j ≠ 2) (h : j < 58 + 17 * a 2 ∨ 58 + 17 * a 2 + 17 ≤ j) : aAddP a j = a j := by
  unfold aAddP; rw [if_neg h2, if_neg (by omega)]
theorem aAddP_p {a : Int → Int} {w : Int} (h : 0 ≤ a 2) (h0 : 0 ≤ w) (h17 : w < 17) : aP (aAddP a) (a 2) w = if w = 0 then 2 else if w = 1 then 3 else if w = 2 then 1 else 0 := by
  unfold aP aAddP
  rw [if_neg (by omega), if_pos (by omega)]
  (repeat' split) <;> omega
theorem aAddP_q {a : Int → Int} {q w : Int} (h : 0 ≤ q) (hq : q < a 2) (h0 : 0 ≤ w) (h17 : w < 17) : aP (aAddP a) q w = aP a q w := aAddP_n (by omega) (by omega)
theorem aAddP_pf {a : Int → Int} (h : zPf a) (h6 : a 2 < 6) (h1 : 1 ≤ a 1) : zPf (aAddP a) := by
  obtain ⟨p0, p0', pW, p1, p2, p2', p3, p3', p4, p5, p6, p7, pS, pP⟩ := id h
  have n : ∀ j : Int, j < 58 → j ≠ 2 → aAddP a j = a j := fun j g1 g2 => aAddP_n g2 (by omega)
  unfold zPf
  rw [aAddP_2, n 0 (by omega) (by omega), n 1 (by omega) (by omega), n 3 (by omega) (by omega), n 4 (by omega) (by omega), n 5 (by omega) (by omega), n 6 (by omega) (by omega), n 7 (by omega) (by omega), aF_cg (a := a) (fun j g1 g2 => n j (by omega) (by omega)) _ (by omega)]
  refine ⟨p0, p0', fun r g1 g2 => by rw [n _ (by omega) (by omega)]; exact pW r g1 g2, p1, by omega, by omega, p3, p3', p4, p5, p6, p7, fun s g1 g2 => ?_, fun p g1 g2 => ?_⟩
  · have := pS s g1 g2
    unfold aO aL at *
    rw [n _ (by omega) (by omega), n _ (by omega) (by omega)]
    omega
  · unfold zWfP
    rw [n 1 (by omega) (by omega)]
    by_cases q : p = a 2
    · subst q
      rw [aAddP_p p2 (by omega) (by omega), aAddP_p p2 (by omega) (by omega), aAddP_p p2 (by omega) (by omega), aAddP_p p2 (by omega) (by omega), aAddP_p p2 (by omega) (by omega), aAddP_p p2 (by omega) (by omega), aAddP_p p2 (by omega) (by omega), aAddP_p p2 (by omega) (by omega), aAddP_p p2 (by omega) (by omega)]
      simp
      omega
    · have := pP p g1 (by omega)
      unfold zWfP at this
      rw [aAddP_q g1 (by omega) (by omega) (by omega), aAddP_q g1 (by omega) (by omega) (by omega), aAddP_q g1 (by omega) (by omega) (by omega), aAddP_q g1 (by omega) (by omega) (by omega), aAddP_q g1 (by omega) (by omega) (by omega), aAddP_q g1 (by omega) (by omega) (by omega), aAddP_q g1 (by omega) (by omega) (by omega), aAddP_q g1 (by omega) (by omega) (by omega), aAddP_q g1 (by omega) (by omega) (by omega)]
      exact this
theorem CP_addP {W W' : zWd} {c : Nat} {a : Int → Int} (h : zCP W c a) (h6 : a 2 < 6) (h1 : 1 ≤ a 1) (e2 : W' c 2 = a 2 + 1) (e0 : ∀ j : Int, j ≠ 2 → W' c j = W c j) (eo : ∀ k : Nat, c < k → k < c + 8 → k ≠ c + 5 → k ≠ c + 7 → W' k = W k)
    (e5 : ∀ j : Int, j < a 2 * 10 → W' (c + 5) j = W (c + 5) j) (e5p : ∀ w : Int, 0 ≤ w → w < 10 → W' (c + 5) (a 2 * 10 + w) = if w = 0 then 2 else if w = 1 then 3 else if w = 2 then 1 else if w = 5 then -1 else 0) (e7 : ∀ j : Int, j ≠ a 2 → W' (c + 7) j = W (c + 7) j) (e7p : W' (c + 7) (a 2) = 0) : zCP W' c (aAddP a) := by
  obtain ⟨hC, hF, hP⟩ := h
  obtain ⟨r0, r1, r2, r3, r4, r5, r6, r7, rF, rS, rP, rB⟩ := hC
  have p2 := hP.2.2.2.2.1
  have p0' := hP.2.1
  have n : ∀ j : Int, j < 58 → j ≠ 2 → aAddP a j = a j := fun j g1 g2 => aAddP_n g2 (by omega)
  refine ⟨⟨?_, ?_, ?_, ?_, ?_, ?_, ?_, ?_, ?_, ?_, ?_, ?_⟩, ?_, aAddP_pf hP h6 h1⟩
  · rw [n _ (by omega) (by omega), e0 _ (by omega)]; exact r0
  · rw [n _ (by omega) (by omega), e0 _ (by omega)]; exact r1
  · rw [aAddP_2]; exact e2
  · rw [n _ (by omega) (by omega), e0 _ (by omega)]; exact r3
  · rw [n _ (by omega) (by omega), e0 _ (by omega)]; exact r4
  · rw [n _ (by omega) (by omega), e0 _ (by omega)]; exact r5
  · rw [n _ (by omega) (by omega), e0 _ (by omega)]; exact r6
  · rw [n _ (by omega) (by omega), e0 _ (by omega)]; exact r7
  · intro r hr10 hr
    rw [n _ (by omega) (by omega)] at hr
    rw [eo _ (by omega) (by omega) (by omega) (by omega), aF_cg (a := a) (fun j g1 g2 => n j (by omega) (by omega)) _ hr10]; exact rF r hr10 hr
  · intro s g1 g20 g2
    rw [n _ (by omega) (by omega)] at g2
    rw [eo _ (by omega) (by omega) (by omega) (by omega), eo _ (by omega) (by omega) (by omega) (by omega), eo _ (by omega) (by omega) (by omega) (by omega), aR_cg (a := a) (fun j g1 g2 => n j (by omega) (by omega))]
    have eO : aO (aAddP a) s = aO a s := by unfold aO; rw [n _ (by omega) (by omega)]
    have eL : aL (aAddP a) s = aL a s := by unfold aL; rw [n _ (by omega) (by omega)]
    rw [eO, eL]
    exact rS s g1 g20 g2
  · intro p g1 g2
    rw [aAddP_2] at g2
    unfold zCRP zNam
    rw [eo (c + 6) (by omega) (by omega) (by omega) (by omega)]
    by_cases q : p = a 2
    · subst q
      rw [e7p, e5p 0 (by omega) (by omega), e5p 1 (by omega) (by omega), e5p 2 (by omega) (by omega), e5p 3 (by omega) (by omega), e5p 4 (by omega) (by omega), e5p 5 (by omega) (by omega), e5p 7 (by omega) (by omega), e5p 8 (by omega) (by omega), e5p 9 (by omega) (by omega)]
      rw [aAddP_p p2 (by omega) (by omega), aAddP_p p2 (by omega) (by omega), aAddP_p p2 (by omega) (by omega), aAddP_p p2 (by omega) (by omega), aAddP_p p2 (by omega) (by omega), aAddP_p p2 (by omega) (by omega), aAddP_p p2 (by omega) (by omega), aAddP_p p2 (by omega) (by omega), aAddP_p p2 (by omega) (by omega)]
      refine ⟨by simp, by simp, by simp, by simp, by simp, by simp, by simp, by simp, by simp, ⟨by omega, by omega, fun k k1 k2 => by omega, fun k k1 k2 => ?_⟩, fun k k1 k2 => by omega⟩
      rw [aAddP_p p2 (by omega) (by omega), if_neg (by omega), if_neg (by omega), if_neg (by omega)]
    · have hp := rP p g1 (by omega)
      unfold zCRP zNam at hp
      rw [e7 p q, e5 _ (by omega), e5 _ (by omega), e5 _ (by omega), e5 _ (by omega), e5 _ (by omega), e5 _ (by omega), e5 _ (by omega), e5 _ (by omega), e5 _ (by omega)]
      have nP : ∀ k : Int, 0 ≤ k → k < 17 → aP (aAddP a) p k = aP a p k := fun k hk h17 => aAddP_q g1 (by omega) hk h17
      rw [nP 0 (by omega) (by omega), nP 1 (by omega) (by omega), nP 2 (by omega) (by omega), nP 3 (by omega) (by omega), nP 4 (by omega) (by omega), nP 5 (by omega) (by omega), nP 6 (by omega) (by omega), nP 7 (by omega) (by omega), nP 8 (by omega) (by omega)]
      obtain ⟨q0, q1, q2, q3, q4, q5, q7, q8, q9, ⟨g1', g2', g3', g4'⟩, g5'⟩ := hp
      exact ⟨q0, q1, q2, q3, q4, q5, q7, q8, q9, ⟨g1', g2', fun k k1 k2 => by rw [nP _ (by omega) (by omega)]; exact g3' k k1 k2, fun k k1 k2 => by rw [nP _ (by omega) (by omega)]; exact g4' k k1 k2⟩, fun k k1 k2 => by rw [nP _ (by omega) (by omega)]; exact g5' k k1 k2⟩
  · intro i g1 g2
    rw [eo _ (by omega) (by omega) (by omega) (by omega)]; exact rB i g1 g2
  · intro s g1 g2 g3
    rw [n _ (by omega) (by omega)] at g1
    rw [eo _ (by omega) (by omega) (by omega) (by omega), eo _ (by omega) (by omega) (by omega) (by omega)]; exact hF s (by omega) g2 g3
/-- a letter is added to the last name -/
theorem CP_let {W : zWd} {c : Nat} {a : Int → Int} {p len v : Int} (h : zCP W c a) (hp0 : 0 ≤ p) (hp : p < a 2) (hl : W (c + 7) p = len) (h8 : len < 8) (hv : 1 ≤ v) (hv2 : v ≤ 127) : zCP (zup (zup W (c + 6) (p * 8 + len) v) (c + 7) p (len + 1)) c (iup a (58 + 17 * p + (9 + len)) v) := by
  obtain ⟨hC, hF, hP⟩ := h
  obtain ⟨r0, r1, r2, r3, r4, r5, r6, r7, rF, rS, rP, rB⟩ := hC
  have hl0 : 0 ≤ len := by rw [← hl]; exact (rP p hp0 hp).2.2.2.2.2.2.2.2.2.1.1
  have p2' := hP.2.2.2.2.2.1
  have na : ∀ i : Int, i < 58 → iup a (58 + 17 * p + (9 + len)) v i = a i := fun i hi => iup_n (by omega)
  have nF : ∀ i : Int, 8 ≤ i → i < 18 → iup a (58 + 17 * p + (9 + len)) v i = a i := fun i _ hi => na i (by omega)
  have eo : ∀ k : Nat, k ≠ c + 6 → k ≠ c + 7 → zup (zup W (c + 6) (p * 8 + len) v) (c + 7) p (len + 1) k = W k := fun k g1 g2 => by rw [zup_other _ g2, zup_other _ g1]
  have nP : ∀ p' k : Int, 0 ≤ k → k < 9 → aP (iup a (58 + 17 * p + (9 + len)) v) p' k = aP a p' k := fun p' k g1 g2 => by unfold aP; exact iup_n (by omega)
  refine ⟨⟨?_, ?_, ?_, ?_, ?_, ?_, ?_, ?_, ?_, ?_, ?_, ?_⟩, ?_, ?_⟩
  · rw [eo _ (by omega) (by omega), na _ (by omega)]; exact r0
  · rw [eo _ (by omega) (by omega), na _ (by omega)]; exact r1
  · rw [eo _ (by omega) (by omega), na _ (by omega)]; exact r2
  · rw [eo _ (by omega) (by omega), na _ (by omega)]; exact r3
  · rw [eo _ (by omega) (by omega), na _ (by omega)]; exact r4
  · rw [eo _ (by omega) (by omega), na _ (by omega)]; exact r5
  · rw [eo _ (by omega) (by omega), na _ (by omega)]; exact r6
  · rw [eo _ (by omega) (by omega), na _ (by omega)]; exact r7
  · intro r hr10 hr
    rw [na _ (by omega)] at hr
    rw [eo _ (by omega) (by omega), aF_cg nF r hr10]; exact rF r hr10 hr
  · intro s h1 h20 h2
    rw [na _ (by omega)] at h2
    rw [eo _ (by omega) (by omega), eo _ (by omega) (by omega), eo _ (by omega) (by omega), aR_cg nF]
    have eO : aO (iup a (58 + 17 * p + (9 + len)) v) s = aO a s := by unfold aO; rw [na _ (by omega)]
    have eL : aL (iup a (58 + 17 * p + (9 + len)) v) s = aL a s := by unfold aL; rw [na _ (by omega)]
    rw [eO, eL]; exact rS s h1 h20 h2
  · intro p' g1 g2
    rw [na _ (by omega)] at g2
    have hp' := rP p' g1 g2
    unfold zCRP zNam at hp' ⊢
    obtain ⟨q0, q1, q2, q3, q4, q5, q7, q8, q9, ⟨n1, n2, n3, n4⟩, n5⟩ := hp'
    rw [eo (c + 5) (by omega) (by omega), nP p' 0 (by omega) (by omega), nP p' 1 (by omega) (by omega), nP p' 2 (by omega) (by omega), nP p' 3 (by omega) (by omega), nP p' 4 (by omega) (by omega), nP p' 5 (by omega) (by omega), nP p' 6 (by omega) (by omega), nP p' 7 (by omega) (by omega), nP p' 8 (by omega) (by omega)]
    refine ⟨q0, q1, q2, q3, q4, q5, q7, q8, q9, ?_⟩
    by_cases q : p' = p
    · subst q
      rw [zup_s]
      have eL : ∀ k : Int, aP (iup a (58 + 17 * p' + (9 + len)) v) p' (9 + k) = if k = len then v else aP a p' (9 + k) := fun k => by
        unfold aP iup
        by_cases z : k = len
        · rw [if_pos (by omega), if_pos z]
        · rw [if_neg (by omega), if_neg z]
      rw [hl] at n1 n2 n3 n4 n5
      refine ⟨⟨by omega, by omega, fun k k1 k2 => ?_, fun k k1 k2 => ?_⟩, fun k k1 k2 => ?_⟩
      · rw [eL]; split
        · omega
        · exact n3 k k1 (by omega)
      · rw [eL, if_neg (by omega)]; exact n4 k (by omega) k2
      · rw [eL, zup_k (by omega)]
        by_cases z : k = len
        · rw [if_pos z, z, zup_s]
        · rw [if_neg z, zup_i (by omega)]; exact n5 k k1 (by omega)
    · rw [zup_i q, zup_k (by omega)]
      have eL : ∀ k : Int, 0 ≤ k → k < 8 → aP (iup a (58 + 17 * p + (9 + len)) v) p' (9 + k) = aP a p' (9 + k) := fun k k1 k2 => by unfold aP; exact iup_n (by omega)
      refine ⟨⟨n1, n2, fun k k1 k2 => by rw [eL k k1 (by omega)]; exact n3 k k1 k2, fun k k1 k2 => by rw [eL k (by omega) k2]; exact n4 k k1 k2⟩, fun k k1 k2 => ?_⟩
      rw [eL k k1 (by omega), zup_k (by omega), zup_i (by omega)]; exact n5 k k1 k2
  · intro i g1 g2
    rw [zup_k (by omega)]
    by_cases q : i = p * 8 + len
    · subst q; rw [zup_s]; omega
    · rw [zup_i q]; exact rB i g1 g2
  · intro s g1 g2 g3
    rw [na _ (by omega)] at g1
    rw [eo _ (by omega) (by omega), eo _ (by omega) (by omega)]; exact hF s g1 g2 g3
  · obtain ⟨p0, p0', pW, p1, p2, p2', p3, p3', p4, p5, p6, p7, pS, pP⟩ := id hP
    unfold zPf
    rw [na 0 (by omega), na 1 (by omega), na 2 (by omega), na 3 (by omega), na 4 (by omega), na 5 (by omega), na 6 (by omega), na 7 (by omega), aF_cg nF _ (by omega)]
    refine ⟨p0, p0', fun r g1 g2 => by rw [na _ (by omega)]; exact pW r g1 g2, p1, p2, p2', p3, p3', p4, p5, p6, p7, fun s g1 g2 => ?_, fun p' g1 g2 => ?_⟩
    · have := pS s g1 g2
      unfold aO aL at *
      rw [na _ (by omega), na _ (by omega)]; exact this
    · have h9 := pP p' g1 g2
      unfold zWfP at h9 ⊢
      rw [na 1 (by omega), nP p' 0 (by omega) (by omega), nP p' 1 (by omega) (by omega), nP p' 2 (by omega) (by omega), nP p' 3 (by omega) (by omega), nP p' 4 (by omega) (by omega), nP p' 5 (by omega) (by omega), nP p' 6 (by omega) (by omega), nP p' 7 (by omega) (by omega), nP p' 8 (by omega) (by omega)]
      exact h9
def sameN (a : Int → Int) (q p : Int) : Bool := (List.range 8).all (fun k : Nat => decide (aP a q (9 + (k : Int)) = aP a p (9 + (k : Int))))
theorem sameN_iff {a : Int → Int} {q p : Int} : sameN a q p = true ↔ ∀ k : Int, 0 ≤ k → k < 8 → aP a q (9 + k) = aP a p (9 + k) := by
  unfold sameN
  rw [List.all_eq_true]
  constructor
  · intro h k h0 h8
    have h9 := of_decide_eq_true (h k.toNat (List.mem_range.mpr (by omega)))
    rw [show ((k.toNat : Nat) : Int) = k by omega] at h9
    exact h9
  · intro h k hk
    exact decide_eq_true (h k (by omega) (by have := List.mem_range.mp hk; omega))
theorem dX0_addPlayer_0 : decode cX0_addPlayer 0 = .ok (.aload_n 0, 1) := by decide +kernel
theorem dX0_addPlayer_1 : decode cX0_addPlayer 1 = .ok (.getfield 44, 3) := by decide +kernel
theorem dX0_addPlayer_4 : decode cX0_addPlayer 4 = .ok (.bipush 6, 2) := by decide +kernel
theorem dX0_addPlayer_6 : decode cX0_addPlayer 6 = .ok (.if_icmp .lt 4, 3) := by decide +kernel
theorem dX0_addPlayer_9 : decode cX0_addPlayer 9 = .ok (.return_, 1) := by decide +kernel
theorem dX0_addPlayer_10 : decode cX0_addPlayer 10 = .ok (.aload_n 0, 1) := by decide +kernel
theorem dX0_addPlayer_11 : decode cX0_addPlayer 11 = .ok (.getfield 44, 3) := by decide +kernel
theorem dX0_addPlayer_14 : decode cX0_addPlayer 14 = .ok (.istore_n 1, 1) := by decide +kernel
theorem dX0_addPlayer_15 : decode cX0_addPlayer 15 = .ok (.aload_n 0, 1) := by decide +kernel
theorem dX0_addPlayer_16 : decode cX0_addPlayer 16 = .ok (.dup, 1) := by decide +kernel
theorem dX0_addPlayer_17 : decode cX0_addPlayer 17 = .ok (.getfield 44, 3) := by decide +kernel
theorem dX0_addPlayer_20 : decode cX0_addPlayer 20 = .ok (.iconst 1, 1) := by decide +kernel
theorem dX0_addPlayer_21 : decode cX0_addPlayer 21 = .ok (.iadd, 1) := by decide +kernel
theorem dX0_addPlayer_22 : decode cX0_addPlayer 22 = .ok (.putfield 44, 3) := by decide +kernel
theorem dX0_addPlayer_25 : decode cX0_addPlayer 25 = .ok (.aload_n 0, 1) := by decide +kernel
theorem dX0_addPlayer_26 : decode cX0_addPlayer 26 = .ok (.getfield 31, 3) := by decide +kernel
theorem dX0_addPlayer_29 : decode cX0_addPlayer 29 = .ok (.iload_n 1, 1) := by decide +kernel
theorem dX0_addPlayer_30 : decode cX0_addPlayer 30 = .ok (.iconst 0, 1) := by decide +kernel
theorem dX0_addPlayer_31 : decode cX0_addPlayer 31 = .ok (.iastore, 1) := by decide +kernel
theorem dX0_addPlayer_32 : decode cX0_addPlayer 32 = .ok (.iconst 0, 1) := by decide +kernel
theorem dX0_addPlayer_33 : decode cX0_addPlayer 33 = .ok (.istore_n 2, 1) := by decide +kernel
theorem dX0_addPlayer_34 : decode cX0_addPlayer 34 = .ok (.iload_n 2, 1) := by decide +kernel
theorem dX0_addPlayer_35 : decode cX0_addPlayer 35 = .ok (.bipush 10, 2) := by decide +kernel
theorem dX0_addPlayer_37 : decode cX0_addPlayer 37 = .ok (.if_icmp .ge 16, 3) := by decide +kernel
theorem dX0_addPlayer_40 : decode cX0_addPlayer 40 = .ok (.aload_n 0, 1) := by decide +kernel
theorem dX0_addPlayer_41 : decode cX0_addPlayer 41 = .ok (.iload_n 1, 1) := by decide +kernel
theorem dX0_addPlayer_42 : decode cX0_addPlayer 42 = .ok (.iload_n 2, 1) := by decide +kernel
theorem dX0_addPlayer_43 : decode cX0_addPlayer 43 = .ok (.iconst 0, 1) := by decide +kernel
theorem dX0_addPlayer_44 : decode cX0_addPlayer 44 = .ok (.invokevirtual 68, 3) := by decide +kernel
theorem dX0_addPlayer_47 : decode cX0_addPlayer 47 = .ok (.iinc 2 1, 3) := by decide +kernel
theorem dX0_addPlayer_50 : decode cX0_addPlayer 50 = .ok (.goto (-16), 3) := by decide +kernel
theorem dX0_addPlayer_53 : decode cX0_addPlayer 53 = .ok (.aload_n 0, 1) := by decide +kernel
theorem dX0_addPlayer_54 : decode cX0_addPlayer 54 = .ok (.iload_n 1, 1) := by decide +kernel
theorem dX0_addPlayer_55 : decode cX0_addPlayer 55 = .ok (.iconst 0, 1) := by decide +kernel
theorem dX0_addPlayer_56 : decode cX0_addPlayer 56 = .ok (.iconst 2, 1) := by decide +kernel
theorem dX0_addPlayer_57 : decode cX0_addPlayer 57 = .ok (.invokevirtual 68, 3) := by decide +kernel
theorem dX0_addPlayer_60 : decode cX0_addPlayer 60 = .ok (.aload_n 0, 1) := by decide +kernel
theorem dX0_addPlayer_61 : decode cX0_addPlayer 61 = .ok (.iload_n 1, 1) := by decide +kernel
theorem dX0_addPlayer_62 : decode cX0_addPlayer 62 = .ok (.iconst 1, 1) := by decide +kernel
theorem dX0_addPlayer_63 : decode cX0_addPlayer 63 = .ok (.iconst 3, 1) := by decide +kernel
theorem dX0_addPlayer_64 : decode cX0_addPlayer 64 = .ok (.invokevirtual 68, 3) := by decide +kernel
theorem dX0_addPlayer_67 : decode cX0_addPlayer 67 = .ok (.aload_n 0, 1) := by decide +kernel
theorem dX0_addPlayer_68 : decode cX0_addPlayer 68 = .ok (.iload_n 1, 1) := by decide +kernel
theorem dX0_addPlayer_69 : decode cX0_addPlayer 69 = .ok (.iconst 2, 1) := by decide +kernel
theorem dX0_addPlayer_70 : decode cX0_addPlayer 70 = .ok (.iconst 1, 1) := by decide +kernel
theorem dX0_addPlayer_71 : decode cX0_addPlayer 71 = .ok (.invokevirtual 68, 3) := by decide +kernel
theorem dX0_addPlayer_74 : decode cX0_addPlayer 74 = .ok (.aload_n 0, 1) := by decide +kernel
theorem dX0_addPlayer_75 : decode cX0_addPlayer 75 = .ok (.iload_n 1, 1) := by decide +kernel
theorem dX0_addPlayer_76 : decode cX0_addPlayer 76 = .ok (.iconst 5, 1) := by decide +kernel
theorem dX0_addPlayer_77 : decode cX0_addPlayer 77 = .ok (.iconst (-1), 1) := by decide +kernel
theorem dX0_addPlayer_78 : decode cX0_addPlayer 78 = .ok (.invokevirtual 68, 3) := by decide +kernel
theorem dX0_addPlayer_81 : decode cX0_addPlayer 81 = .ok (.return_, 1) := by decide +kernel
theorem eX0_addPlayer {c : Nat} {W : zWd} {a : Int → Int}  {Q : Option Value → zWd → Prop} {X : zX} (hc : zCt c) (hC : zCP W c a) (h6 : a 2 < 6) (h1a : 1 ≤ a 1) (hq : ∀ W' : zWd, zOff c W W' → zCP W' c (aAddP a) → Q none W') : Ev MX0_addPlayer 1 0 W [.ref c] Q X := by
  refine ev_of (ls := [.ref c, .null, .null]) (by decide) rfl (fun _ => rfl) (fun _ => Nat.le_of_ble_eq_true rfl) (Or.inl rfl) ?_
  obtain ⟨r0, r1, r2, r3, r4, r5, r6, r7, rF, rS, rP, rB⟩ := id hC.1
  obtain ⟨p0, p0', pW, p1, p2, p2', p3, p3', p4, p5, p6, p7, pS, pP⟩ := id hC.2.2
  have loop : ∀ (n : Nat) (i : Int) (Wi : zWd), 0 ≤ i → i ≤ 10 → zOff c W Wi → Wi c 2 = a 2 + 1 → (∀ j : Int, j ≠ 2 → Wi c j = W c j) → (∀ k : Nat, c < k → k < c + 8 → k ≠ c + 5 → k ≠ c + 7 → Wi k = W k) → (∀ j : Int, j < a 2 * 10 → Wi (c + 5) j = W (c + 5) j) → (∀ w : Int, 0 ≤ w → w < i → Wi (c + 5) (a 2 * 10 + w) = 0) → (∀ j : Int, j ≠ a 2 → Wi (c + 7) j = W (c + 7) j) → Wi (c + 7) (a 2) = 0 → (10 - i).toNat < n → RR MX0_addPlayer 1 0 Wi 34 [.ref c, zI (a 2), zI i] [] (zEnd MX0_addPlayer Q X) X := by
    intro n
    induction n with
    | zero => intro i Wi _ _ _ _ _ _ _ _ _ _ hm9; omega
    | succ n ih =>
      intro i Wi h1 h2 hO e2 e0 eo e5 e5p e7 e7p hm9
      refine rr_iload_n (pc := 34) dX0_addPlayer_34 rfl ?_
      refine rr_bipush (n := (10)) dX0_addPlayer_35 ?_
      refine rr_icmp_ge (pc := 37) (tgt := 53) dX0_addPlayer_37 (by decide) (by unfold zR; omega) (by unfold zR; omega) (fun h37 => ?_) (fun h37 => ?_)
      · refine rr_aload_n (pc := 53) dX0_addPlayer_53 rfl ?_
        refine rr_iload_n (pc := 54) dX0_addPlayer_54 rfl ?_
        refine rr_iconst (n := 0) dX0_addPlayer_55 ?_
        refine rr_iconst (n := 2) dX0_addPlayer_56 ?_
        refine rr_inv0 (M' := MX0_put) (k := c) (As := [_, _, _]) (pc := 57) dX0_addPlayer_57 lX0_68 kX0_put vX0_put hc.k (by decide) rfl (by decide) (by decide) (Nat.le_of_ble_eq_true rfl) rfl (eX0_put hc (by omega) (by omega) (by omega) (by omega) ?_)
        refine rr_aload_n (pc := 60) dX0_addPlayer_60 rfl ?_
        refine rr_iload_n (pc := 61) dX0_addPlayer_61 rfl ?_
        refine rr_iconst (n := 1) dX0_addPlayer_62 ?_
        refine rr_iconst (n := 3) dX0_addPlayer_63 ?_
        refine rr_inv0 (M' := MX0_put) (k := c) (As := [_, _, _]) (pc := 64) dX0_addPlayer_64 lX0_68 kX0_put vX0_put hc.k (by decide) rfl (by decide) (by decide) (Nat.le_of_ble_eq_true rfl) rfl (eX0_put hc (by omega) (by omega) (by omega) (by omega) ?_)
        refine rr_aload_n (pc := 67) dX0_addPlayer_67 rfl ?_
        refine rr_iload_n (pc := 68) dX0_addPlayer_68 rfl ?_
        refine rr_iconst (n := 2) dX0_addPlayer_69 ?_
        refine rr_iconst (n := 1) dX0_addPlayer_70 ?_
        refine rr_inv0 (M' := MX0_put) (k := c) (As := [_, _, _]) (pc := 71) dX0_addPlayer_71 lX0_68 kX0_put vX0_put hc.k (by decide) rfl (by decide) (by decide) (Nat.le_of_ble_eq_true rfl) rfl (eX0_put hc (by omega) (by omega) (by omega) (by omega) ?_)
        refine rr_aload_n (pc := 74) dX0_addPlayer_74 rfl ?_
        refine rr_iload_n (pc := 75) dX0_addPlayer_75 rfl ?_
        refine rr_iconst (n := 5) dX0_addPlayer_76 ?_
        refine rr_iconst (n := (-1)) dX0_addPlayer_77 ?_
        refine rr_inv0 (M' := MX0_put) (k := c) (As := [_, _, _]) (pc := 78) dX0_addPlayer_78 lX0_68 kX0_put vX0_put hc.k (by decide) rfl (by decide) (by decide) (Nat.le_of_ble_eq_true rfl) rfl (eX0_put hc (by omega) (by omega) (by omega) (by omega) ?_)
        have u5 : ∀ k : Nat, k ≠ c + 5 → zup (zup (zup (zup Wi (c + 5) (a 2 * 10 + 0) 2) (c + 5) (a 2 * 10 + 1) 3) (c + 5) (a 2 * 10 + 2) 1) (c + 5) (a 2 * 10 + 5) (-1) k = Wi k := fun k g => by rw [zup_other _ g, zup_other _ g, zup_other _ g, zup_other _ g]
        have hi10 : i = 10 := by omega
        subst hi10
        have hCP := CP_addP (W' := zup (zup (zup (zup Wi (c + 5) (a 2 * 10 + 0) 2) (c + 5) (a 2 * 10 + 1) 3) (c + 5) (a 2 * 10 + 2) 1) (c + 5) (a 2 * 10 + 5) (-1)) hC h6 h1a (by rw [u5 _ (by omega)]; exact e2) (fun j g1 => by rw [u5 _ (by omega)]; exact e0 j g1) (fun k g1 g2 g3 g4 => by rw [u5 _ g3]; exact eo k g1 g2 g3 g4)
          (fun j g1 => by rw [zup_i (by omega), zup_i (by omega), zup_i (by omega), zup_i (by omega)]; exact e5 j g1) (fun w g1 g2 => by
            have h9 := e5p w g1 g2
            simp only [zup, if_true]
            (repeat' split) <;> omega) (fun j g1 => by rw [u5 _ (by omega)]; exact e7 j g1) (by rw [u5 _ (by omega)]; exact e7p)
        exact rr_retv (pc := 81) dX0_addPlayer_81 rfl rfl (hq _ ((((hO.up (by omega)).up (by omega)).up (by omega)).up (by omega)) hCP)
      · refine rr_aload_n (pc := 40) dX0_addPlayer_40 rfl ?_
        refine rr_iload_n (pc := 41) dX0_addPlayer_41 rfl ?_
        refine rr_iload_n (pc := 42) dX0_addPlayer_42 rfl ?_
        refine rr_iconst (n := 0) dX0_addPlayer_43 ?_
        refine rr_inv0 (M' := MX0_put) (k := c) (As := [_, _, _]) (pc := 44) dX0_addPlayer_44 lX0_68 kX0_put vX0_put hc.k (by decide) rfl (by decide) (by decide) (Nat.le_of_ble_eq_true rfl) rfl (eX0_put hc (by omega) (by omega) (by omega) (by omega) ?_)
        refine rr_iinc (pc := 47) dX0_addPlayer_47 rfl (by decide) ?_
        refine rr_goto (pc := 50) (tgt := 34) dX0_addPlayer_50 (by decide) ?_
        refine ih (i + 1) _ (by omega) (by omega) (hO.up (by omega)) (by rw [zup_k (by omega)]; exact e2) (fun j g1 => by rw [zup_k (by omega)]; exact e0 j g1) (fun k g1 g2 g3 g4 => by rw [zup_other _ (by omega)]; exact eo k g1 g2 g3 g4) (fun j g1 => by rw [zup_i (by omega)]; exact e5 j g1) (fun w g1 g2 => ?_) (fun j g1 => by rw [zup_k (by omega)]; exact e7 j g1) (by rw [zup_k (by omega)]; exact e7p) (by omega)
        by_cases q : w = i
        · subst q; exact zup_s
        · rw [zup_i (by omega)]; exact e5p w g1 (by omega)
  refine rr_aload_n (pc := 0) dX0_addPlayer_0 rfl ?_
  refine rr_getI (pc := 1) (ji := 2) dX0_addPlayer_1 fX0_44 hc.k hc.i2 rfl ?_
  rw [r2]
  refine rr_bipush (n := (6)) dX0_addPlayer_4 ?_
  refine rr_icmp_lt (pc := 6) (tgt := 10) dX0_addPlayer_6 (by decide) (by unfold zR; omega) (by unfold zR; omega) (fun h6 => ?_) (fun h6 => ?_)
  · refine rr_aload_n (pc := 10) dX0_addPlayer_10 rfl ?_
    refine rr_getI (pc := 11) (ji := 2) dX0_addPlayer_11 fX0_44 hc.k hc.i2 rfl ?_
    rw [r2]
    refine rr_istore_n (pc := 14) dX0_addPlayer_14 (by decide) ?_
    refine rr_aload_n (pc := 15) dX0_addPlayer_15 rfl ?_
    refine rr_dup_r (pc := 16) dX0_addPlayer_16 ?_
    refine rr_getI (pc := 17) (ji := 2) dX0_addPlayer_17 fX0_44 hc.k hc.i2 rfl ?_
    rw [r2]
    refine rr_iconst (n := 1) dX0_addPlayer_20 ?_
    refine rr_iadd (pc := 21) dX0_addPlayer_21 ?_
    refine rr_put (pc := 22) (ji := 2) dX0_addPlayer_22 fX0_44 fp_0_2 hc.k hc.i2 rfl ?_
    refine rr_aload_n (pc := 25) dX0_addPlayer_25 rfl ?_
    refine rr_getR (pc := 26) dX0_addPlayer_26 fX0_31 hc.k hc.r14 ?_
    refine rr_iload_n (pc := 29) dX0_addPlayer_29 rfl ?_
    refine rr_iconst (n := 0) dX0_addPlayer_30 ?_
    refine rr_iast (pc := 31) dX0_addPlayer_31 hc.a7 (by omega) (by omega) ?_
    refine rr_iconst (n := 0) dX0_addPlayer_32 ?_
    refine rr_istore_n (pc := 33) dX0_addPlayer_33 (by decide) ?_
    exact loop _ 0 _ (by omega) (by omega) ((zOff.rf.up (by omega)).up (by omega)) (by rw [zup_k (by omega), zup_s]) (fun j g1 => by rw [zup_k (by omega), zup_i g1]) (fun k g1 g2 g3 g4 => by rw [zup_other _ g4, zup_other _ (by omega)]) (fun j g1 => by rw [zup_k (by omega), zup_k (by omega)]) (fun w g1 g2 => by omega) (fun j g1 => by rw [zup_i g1, zup_k (by omega)]) zup_s (Nat.lt_succ_self _)
  · omega
theorem dX0_addLetter_0 : decode cX0_addLetter 0 = .ok (.aload_n 0, 1) := by decide +kernel
theorem dX0_addLetter_1 : decode cX0_addLetter 1 = .ok (.getfield 44, 3) := by decide +kernel
theorem dX0_addLetter_4 : decode cX0_addLetter 4 = .ok (.iconst 1, 1) := by decide +kernel
theorem dX0_addLetter_5 : decode cX0_addLetter 5 = .ok (.isub, 1) := by decide +kernel
theorem dX0_addLetter_6 : decode cX0_addLetter 6 = .ok (.istore_n 2, 1) := by decide +kernel
theorem dX0_addLetter_7 : decode cX0_addLetter 7 = .ok (.iload_n 2, 1) := by decide +kernel
theorem dX0_addLetter_8 : decode cX0_addLetter 8 = .ok (.ifCond .lt 42, 3) := by decide +kernel
theorem dX0_addLetter_11 : decode cX0_addLetter 11 = .ok (.aload_n 0, 1) := by decide +kernel
theorem dX0_addLetter_12 : decode cX0_addLetter 12 = .ok (.getfield 31, 3) := by decide +kernel
theorem dX0_addLetter_15 : decode cX0_addLetter 15 = .ok (.iload_n 2, 1) := by decide +kernel
theorem dX0_addLetter_16 : decode cX0_addLetter 16 = .ok (.iaload, 1) := by decide +kernel
theorem dX0_addLetter_17 : decode cX0_addLetter 17 = .ok (.bipush 8, 2) := by decide +kernel
theorem dX0_addLetter_19 : decode cX0_addLetter 19 = .ok (.if_icmp .ge 31, 3) := by decide +kernel
theorem dX0_addLetter_22 : decode cX0_addLetter 22 = .ok (.aload_n 0, 1) := by decide +kernel
theorem dX0_addLetter_23 : decode cX0_addLetter 23 = .ok (.getfield 27, 3) := by decide +kernel
theorem dX0_addLetter_26 : decode cX0_addLetter 26 = .ok (.iload_n 2, 1) := by decide +kernel
theorem dX0_addLetter_27 : decode cX0_addLetter 27 = .ok (.bipush 8, 2) := by decide +kernel
theorem dX0_addLetter_29 : decode cX0_addLetter 29 = .ok (.imul, 1) := by decide +kernel
theorem dX0_addLetter_30 : decode cX0_addLetter 30 = .ok (.aload_n 0, 1) := by decide +kernel
theorem dX0_addLetter_31 : decode cX0_addLetter 31 = .ok (.getfield 31, 3) := by decide +kernel
theorem dX0_addLetter_34 : decode cX0_addLetter 34 = .ok (.iload_n 2, 1) := by decide +kernel
theorem dX0_addLetter_35 : decode cX0_addLetter 35 = .ok (.iaload, 1) := by decide +kernel
theorem dX0_addLetter_36 : decode cX0_addLetter 36 = .ok (.iadd, 1) := by decide +kernel
theorem dX0_addLetter_37 : decode cX0_addLetter 37 = .ok (.iload_n 1, 1) := by decide +kernel
theorem dX0_addLetter_38 : decode cX0_addLetter 38 = .ok (.i2b, 1) := by decide +kernel
theorem dX0_addLetter_39 : decode cX0_addLetter 39 = .ok (.bastore, 1) := by decide +kernel
theorem dX0_addLetter_40 : decode cX0_addLetter 40 = .ok (.aload_n 0, 1) := by decide +kernel
theorem dX0_addLetter_41 : decode cX0_addLetter 41 = .ok (.getfield 31, 3) := by decide +kernel
theorem dX0_addLetter_44 : decode cX0_addLetter 44 = .ok (.iload_n 2, 1) := by decide +kernel
theorem dX0_addLetter_45 : decode cX0_addLetter 45 = .ok (.dup2, 1) := by decide +kernel
theorem dX0_addLetter_46 : decode cX0_addLetter 46 = .ok (.iaload, 1) := by decide +kernel
theorem dX0_addLetter_47 : decode cX0_addLetter 47 = .ok (.iconst 1, 1) := by decide +kernel
theorem dX0_addLetter_48 : decode cX0_addLetter 48 = .ok (.iadd, 1) := by decide +kernel
theorem dX0_addLetter_49 : decode cX0_addLetter 49 = .ok (.iastore, 1) := by decide +kernel
theorem dX0_addLetter_50 : decode cX0_addLetter 50 = .ok (.return_, 1) := by decide +kernel
theorem eX0_addLetter {c : Nat} {W : zWd} {a : Int → Int} {len v : Int} {Q : Option Value → zWd → Prop} {X : zX} (hc : zCt c) (hC : zCP W c a) (h1 : 1 ≤ a 2) (hl : W (c + 7) (a 2 - 1) = len) (hl8 : len < 8) (hv : 1 ≤ v) (hv2 : v ≤ 127) (hq : ∀ W' : zWd, zOff c W W' → zCP W' c (iup a (58 + 17 * (a 2 - 1) + (9 + len)) v) → W' (c + 7) (a 2 - 1) = len + 1 → Q none W') : Ev MX0_addLetter 0 0 W [.ref c, zI v] Q X := by
  refine ev_of (ls := [.ref c, zI v, .null]) (by decide) rfl (fun _ => rfl) (fun _ => Nat.le_of_ble_eq_true rfl) (Or.inl rfl) ?_
  obtain ⟨r0, r1, r2, r3, r4, r5, r6, r7, rF, rS, rP, rB⟩ := id hC.1
  obtain ⟨p0, p0', pW, p1, p2, p2', p3, p3', p4, p5, p6, p7, pS, pP⟩ := id hC.2.2
  have hl0 : 0 ≤ len := by rw [← hl]; exact (rP (a 2 - 1) (by omega) (by omega)).2.2.2.2.2.2.2.2.2.1.1
  refine rr_aload_n (pc := 0) dX0_addLetter_0 rfl ?_
  refine rr_getI (pc := 1) (ji := 2) dX0_addLetter_1 fX0_44 hc.k hc.i2 rfl ?_
  rw [r2]
  refine rr_iconst (n := 1) dX0_addLetter_4 ?_
  refine rr_isub (pc := 5) dX0_addLetter_5 ?_
  refine rr_istore_n (pc := 6) dX0_addLetter_6 (by decide) ?_
  refine rr_iload_n (pc := 7) dX0_addLetter_7 rfl ?_
  refine rr_if_lt (pc := 8) (tgt := 50) dX0_addLetter_8 (by decide) (by unfold zR; omega) (fun h8 => ?_) (fun h8 => ?_)
  · omega
  · refine rr_aload_n (pc := 11) dX0_addLetter_11 rfl ?_
    refine rr_getR (pc := 12) dX0_addLetter_12 fX0_31 hc.k hc.r14 ?_
    refine rr_iload_n (pc := 15) dX0_addLetter_15 rfl ?_
    refine rr_iald (pc := 16) dX0_addLetter_16 hc.a7 (by omega) (by omega) ?_
    rw [hl]
    refine rr_bipush (n := (8)) dX0_addLetter_17 ?_
    refine rr_icmp_ge (pc := 19) (tgt := 50) dX0_addLetter_19 (by decide) (by unfold zR; omega) (by unfold zR; omega) (fun h19 => ?_) (fun h19 => ?_)
    · omega
    · refine rr_aload_n (pc := 22) dX0_addLetter_22 rfl ?_
      refine rr_getR (pc := 23) dX0_addLetter_23 fX0_27 hc.k hc.r13 ?_
      refine rr_iload_n (pc := 26) dX0_addLetter_26 rfl ?_
      refine rr_bipush (n := (8)) dX0_addLetter_27 ?_
      refine rr_imul (pc := 29) dX0_addLetter_29 ?_
      refine rr_aload_n (pc := 30) dX0_addLetter_30 rfl ?_
      refine rr_getR (pc := 31) dX0_addLetter_31 fX0_31 hc.k hc.r14 ?_
      refine rr_iload_n (pc := 34) dX0_addLetter_34 rfl ?_
      refine rr_iald (pc := 35) dX0_addLetter_35 hc.a7 (by omega) (by omega) ?_
      rw [hl]
      refine rr_iadd (pc := 36) dX0_addLetter_36 ?_
      refine rr_iload_n (pc := 37) dX0_addLetter_37 rfl ?_
      refine rr_i2b (pc := 38) dX0_addLetter_38 ?_
      rw [Int.bmod_def, show (if v % (256 : Nat) < ((256 : Nat) + 1) / 2 then v % (256 : Nat) else v % (256 : Nat) - (256 : Nat)) = v by omega]
      refine rr_bast (pc := 39) dX0_addLetter_39 hc.a6 (by omega) (by omega) (by omega) (by omega) ?_
      refine rr_aload_n (pc := 40) dX0_addLetter_40 rfl ?_
      refine rr_getR (pc := 41) dX0_addLetter_41 fX0_31 hc.k hc.r14 ?_
      refine rr_iload_n (pc := 44) dX0_addLetter_44 rfl ?_
      refine rr_dup2 (pc := 45) dX0_addLetter_45 ?_
      refine rr_iald (pc := 46) dX0_addLetter_46 hc.a7 (by omega) (by omega) ?_
      rw [zup_k (show c + 7 ≠ c + 6 by omega), hl]
      refine rr_iconst (n := 1) dX0_addLetter_47 ?_
      refine rr_iadd (pc := 48) dX0_addLetter_48 ?_
      refine rr_iast (pc := 49) dX0_addLetter_49 hc.a7 (by omega) (by omega) ?_
      exact rr_retv (pc := 50) dX0_addLetter_50 rfl rfl (hq _ ((zOff.rf.up (by omega)).up (by omega)) (CP_let hC (by omega) (by omega) hl hl8 hv hv2) zup_s)
theorem dX0_hasSameName_0 : decode cX0_hasSameName 0 = .ok (.aload_n 0, 1) := by decide +kernel
theorem dX0_hasSameName_1 : decode cX0_hasSameName 1 = .ok (.getfield 31, 3) := by decide +kernel
theorem dX0_hasSameName_4 : decode cX0_hasSameName 4 = .ok (.iload_n 1, 1) := by decide +kernel
theorem dX0_hasSameName_5 : decode cX0_hasSameName 5 = .ok (.iaload, 1) := by decide +kernel
theorem dX0_hasSameName_6 : decode cX0_hasSameName 6 = .ok (.aload_n 0, 1) := by decide +kernel
theorem dX0_hasSameName_7 : decode cX0_hasSameName 7 = .ok (.getfield 31, 3) := by decide +kernel
theorem dX0_hasSameName_10 : decode cX0_hasSameName 10 = .ok (.iload_n 2, 1) := by decide +kernel
theorem dX0_hasSameName_11 : decode cX0_hasSameName 11 = .ok (.iaload, 1) := by decide +kernel
theorem dX0_hasSameName_12 : decode cX0_hasSameName 12 = .ok (.if_icmp .eq 5, 3) := by decide +kernel
theorem dX0_hasSameName_15 : decode cX0_hasSameName 15 = .ok (.iconst 0, 1) := by decide +kernel
theorem dX0_hasSameName_16 : decode cX0_hasSameName 16 = .ok (.ireturn, 1) := by decide +kernel
theorem dX0_hasSameName_17 : decode cX0_hasSameName 17 = .ok (.iconst 0, 1) := by decide +kernel
theorem dX0_hasSameName_18 : decode cX0_hasSameName 18 = .ok (.istore_n 3, 1) := by decide +kernel
theorem dX0_hasSameName_19 : decode cX0_hasSameName 19 = .ok (.iload_n 3, 1) := by decide +kernel
theorem dX0_hasSameName_20 : decode cX0_hasSameName 20 = .ok (.aload_n 0, 1) := by decide +kernel
theorem dX0_hasSameName_21 : decode cX0_hasSameName 21 = .ok (.getfield 31, 3) := by decide +kernel
theorem dX0_hasSameName_24 : decode cX0_hasSameName 24 = .ok (.iload_n 1, 1) := by decide +kernel
theorem dX0_hasSameName_25 : decode cX0_hasSameName 25 = .ok (.iaload, 1) := by decide +kernel
theorem dX0_hasSameName_26 : decode cX0_hasSameName 26 = .ok (.if_icmp .ge 36, 3) := by decide +kernel
theorem dX0_hasSameName_29 : decode cX0_hasSameName 29 = .ok (.aload_n 0, 1) := by decide +kernel
theorem dX0_hasSameName_30 : decode cX0_hasSameName 30 = .ok (.getfield 27, 3) := by decide +kernel
theorem dX0_hasSameName_33 : decode cX0_hasSameName 33 = .ok (.iload_n 1, 1) := by decide +kernel
theorem dX0_hasSameName_34 : decode cX0_hasSameName 34 = .ok (.bipush 8, 2) := by decide +kernel
theorem dX0_hasSameName_36 : decode cX0_hasSameName 36 = .ok (.imul, 1) := by decide +kernel
theorem dX0_hasSameName_37 : decode cX0_hasSameName 37 = .ok (.iload_n 3, 1) := by decide +kernel
theorem dX0_hasSameName_38 : decode cX0_hasSameName 38 = .ok (.iadd, 1) := by decide +kernel
theorem dX0_hasSameName_39 : decode cX0_hasSameName 39 = .ok (.baload, 1) := by decide +kernel
theorem dX0_hasSameName_40 : decode cX0_hasSameName 40 = .ok (.aload_n 0, 1) := by decide +kernel
theorem dX0_hasSameName_41 : decode cX0_hasSameName 41 = .ok (.getfield 27, 3) := by decide +kernel
theorem dX0_hasSameName_44 : decode cX0_hasSameName 44 = .ok (.iload_n 2, 1) := by decide +kernel
theorem dX0_hasSameName_45 : decode cX0_hasSameName 45 = .ok (.bipush 8, 2) := by decide +kernel
theorem dX0_hasSameName_47 : decode cX0_hasSameName 47 = .ok (.imul, 1) := by decide +kernel
theorem dX0_hasSameName_48 : decode cX0_hasSameName 48 = .ok (.iload_n 3, 1) := by decide +kernel
theorem dX0_hasSameName_49 : decode cX0_hasSameName 49 = .ok (.iadd, 1) := by decide +kernel
theorem dX0_hasSameName_50 : decode cX0_hasSameName 50 = .ok (.baload, 1) := by decide +kernel
theorem dX0_hasSameName_51 : decode cX0_hasSameName 51 = .ok (.if_icmp .eq 5, 3) := by decide +kernel
theorem dX0_hasSameName_54 : decode cX0_hasSameName 54 = .ok (.iconst 0, 1) := by decide +kernel
theorem dX0_hasSameName_55 : decode cX0_hasSameName 55 = .ok (.ireturn, 1) := by decide +kernel
theorem dX0_hasSameName_56 : decode cX0_hasSameName 56 = .ok (.iinc 3 1, 3) := by decide +kernel
theorem dX0_hasSameName_59 : decode cX0_hasSameName 59 = .ok (.goto (-40), 3) := by decide +kernel
theorem dX0_hasSameName_62 : decode cX0_hasSameName 62 = .ok (.iconst 1, 1) := by decide +kernel
theorem dX0_hasSameName_63 : decode cX0_hasSameName 63 = .ok (.ireturn, 1) := by decide +kernel
theorem eX0_hasSameName {c : Nat} {W : zWd} {a : Int → Int} {q p : Int} {Q : Option Value → zWd → Prop} {X : zX} (hc : zCt c) (hC : zCP W c a) (hq0 : 0 ≤ q) (hq1 : q < a 2) (hp0 : 0 ≤ p) (hp1 : p < a 2) (hq : Q (some (zI (if sameN a q p = true then 1 else 0))) W) : Ev MX0_hasSameName 0 0 W [.ref c, zI q, zI p] Q X := by
  refine ev_of (ls := [.ref c, zI q, zI p, .null]) (by decide) rfl (fun _ => rfl) (fun _ => Nat.le_of_ble_eq_true rfl) (Or.inl rfl) ?_
  obtain ⟨r0, r1, r2, r3, r4, r5, r6, r7, rF, rS, rP, rB⟩ := id hC.1
  obtain ⟨p0, p0', pW, p1, p2, p2', p3, p3', p4, p5, p6, p7, pS, pP⟩ := id hC.2.2
  obtain ⟨⟨a1, a2, a3, a4⟩, a5⟩ := (rP q hq0 hq1).2.2.2.2.2.2.2.2.2
  obtain ⟨⟨b1, b2, b3, b4⟩, b5⟩ := (rP p hp0 hp1).2.2.2.2.2.2.2.2.2
  refine rr_aload_n (pc := 0) dX0_hasSameName_0 rfl ?_
  refine rr_getR (pc := 1) dX0_hasSameName_1 fX0_31 hc.k hc.r14 ?_
  refine rr_iload_n (pc := 4) dX0_hasSameName_4 rfl ?_
  refine rr_iald (pc := 5) dX0_hasSameName_5 hc.a7 (by omega) (by omega) ?_
  refine rr_aload_n (pc := 6) dX0_hasSameName_6 rfl ?_
  refine rr_getR (pc := 7) dX0_hasSameName_7 fX0_31 hc.k hc.r14 ?_
  refine rr_iload_n (pc := 10) dX0_hasSameName_10 rfl ?_
  refine rr_iald (pc := 11) dX0_hasSameName_11 hc.a7 (by omega) (by omega) ?_
  refine rr_icmp_eq (pc := 12) (tgt := 17) dX0_hasSameName_12 (by decide) (by unfold zR; omega) (by unfold zR; omega) (fun h12 => ?_) (fun h12 => ?_)
  · have loop : ∀ (n : Nat) (i : Int), 0 ≤ i → i ≤ W (c + 7) q → (∀ k : Int, 0 ≤ k → k < i → aP a q (9 + k) = aP a p (9 + k)) → (W (c + 7) q - i).toNat < n → RR MX0_hasSameName 0 0 W 19 [.ref c, zI q, zI p, zI i] [] (zEnd MX0_hasSameName Q X) X := by
      intro n
      induction n with
      | zero => intro i _ _ _ hm9; omega
      | succ n ih =>
        intro i h1 h2 hS hm9
        refine rr_iload_n (pc := 19) dX0_hasSameName_19 rfl ?_
        refine rr_aload_n (pc := 20) dX0_hasSameName_20 rfl ?_
        refine rr_getR (pc := 21) dX0_hasSameName_21 fX0_31 hc.k hc.r14 ?_
        refine rr_iload_n (pc := 24) dX0_hasSameName_24 rfl ?_
        refine rr_iald (pc := 25) dX0_hasSameName_25 hc.a7 (by omega) (by omega) ?_
        refine rr_icmp_ge (pc := 26) (tgt := 62) dX0_hasSameName_26 (by decide) (by unfold zR; omega) (by unfold zR; omega) (fun h26 => ?_) (fun h26 => ?_)
        · refine rr_iconst (n := 1) dX0_hasSameName_62 ?_
          have hall : ∀ k : Int, 0 ≤ k → k < 8 → aP a q (9 + k) = aP a p (9 + k) := fun k g1 g2 => by
            by_cases z : k < i
            · exact hS k g1 z
            · rw [a4 k (by omega) g2, b4 k (by omega) g2]
          exact rr_reti (pc := 63) dX0_hasSameName_63 rfl rfl (by rw [if_pos (sameN_iff.mpr hall)]) rfl (hq)
        · refine rr_aload_n (pc := 29) dX0_hasSameName_29 rfl ?_
          refine rr_getR (pc := 30) dX0_hasSameName_30 fX0_27 hc.k hc.r13 ?_
          refine rr_iload_n (pc := 33) dX0_hasSameName_33 rfl ?_
          refine rr_bipush (n := (8)) dX0_hasSameName_34 ?_
          refine rr_imul (pc := 36) dX0_hasSameName_36 ?_
          refine rr_iload_n (pc := 37) dX0_hasSameName_37 rfl ?_
          refine rr_iadd (pc := 38) dX0_hasSameName_38 ?_
          refine rr_bald (pc := 39) dX0_hasSameName_39 hc.a6 (by omega) (by omega) ?_
          rw [a5 i h1 (by omega)]
          refine rr_aload_n (pc := 40) dX0_hasSameName_40 rfl ?_
          refine rr_getR (pc := 41) dX0_hasSameName_41 fX0_27 hc.k hc.r13 ?_
          refine rr_iload_n (pc := 44) dX0_hasSameName_44 rfl ?_
          refine rr_bipush (n := (8)) dX0_hasSameName_45 ?_
          refine rr_imul (pc := 47) dX0_hasSameName_47 ?_
          refine rr_iload_n (pc := 48) dX0_hasSameName_48 rfl ?_
          refine rr_iadd (pc := 49) dX0_hasSameName_49 ?_
          refine rr_bald (pc := 50) dX0_hasSameName_50 hc.a6 (by omega) (by omega) ?_
          rw [b5 i h1 (by omega)]
          have z1 := a3 i h1 (by omega)
          have z2 := b3 i h1 (by omega)
          refine rr_icmp_eq (pc := 51) (tgt := 56) dX0_hasSameName_51 (by decide) (by unfold zR; omega) (by unfold zR; omega) (fun h51 => ?_) (fun h51 => ?_)
          · refine rr_iinc (pc := 56) dX0_hasSameName_56 rfl (by decide) ?_
            refine rr_goto (pc := 59) (tgt := 19) dX0_hasSameName_59 (by decide) ?_
            refine ih (i + 1) (by omega) (by omega) (fun k g1 g2 => ?_) (by omega)
            by_cases z : k = i
            · subst z; exact h51
            · exact hS k g1 (by omega)
          · refine rr_iconst (n := 0) dX0_hasSameName_54 ?_
            exact rr_reti (pc := 55) dX0_hasSameName_55 rfl rfl (by rw [if_neg (fun z => h51 (sameN_iff.mp z i h1 (by omega)))]) rfl (hq)
    refine rr_iconst (n := 0) dX0_hasSameName_17 ?_
    refine rr_istore_n (pc := 18) dX0_hasSameName_18 (by decide) ?_
    exact loop _ 0 (by omega) (by omega) (fun k g1 g2 => by omega) (Nat.lt_succ_self _)
  · refine rr_iconst (n := 0) dX0_hasSameName_15 ?_
    have hne : ¬ sameN a q p = true := fun z => by
      have z := sameN_iff.mp z
      rcases Int.lt_or_le (W (c + 7) q) (W (c + 7) p) with g | g
      · have y1 := z (W (c + 7) q) a1 (by omega)
        have y2 := a4 (W (c + 7) q) (Int.le_refl _) (by omega)
        have y3 := b3 (W (c + 7) q) a1 g
        omega
      · have y1 := z (W (c + 7) p) b1 (by omega)
        have y2 := b4 (W (c + 7) p) (Int.le_refl _) (by omega)
        have y3 := a3 (W (c + 7) p) b1 (by omega)
        omega
    exact rr_reti (pc := 16) dX0_hasSameName_16 rfl rfl (by rw [if_neg hne]) rfl (hq)
