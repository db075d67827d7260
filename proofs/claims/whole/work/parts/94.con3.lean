theorem zLv.nil {N : Nat} : zLv N [] := fun k h => absurd h (by simp)
theorem zLv.i {N : Nat} {l : List Value} {x : Int} (h : zLv N l) : zLv N (zI x :: l) := fun k hk => by
  rcases List.mem_cons.mp hk with q | q
  · cases q
  · exact h k q
theorem zLv.n {N : Nat} {l : List Value} (h : zLv N l) : zLv N (.null :: l) := fun k hk => by
  rcases List.mem_cons.mp hk with q | q
  · cases q
  · exact h k q
theorem zLv.r {N : Nat} {l : List Value} {k j : Nat} (hj : j < N) (e : zov j = k) (h : zLv N l) : zLv N (.ref k :: l) := fun k' hk => by
  rcases List.mem_cons.mp hk with q | q
  · cases q; exact Or.inl ⟨j, hj, e⟩
  · exact h k' q
theorem zLv.s {N : Nat} {l : List Value} {k : Nat} (hk : 129 ≤ k) (h : zLv N l) : zLv N (.ref k :: l) := fun k' hk' => by
  rcases List.mem_cons.mp hk' with q | q
  · cases q; exact Or.inr hk
  · exact h k' q
theorem zfw_r {W : zWd} {k j r : Nat} (h : zr k j = some r) : ∀ ad, zt ad (.ref r) = zfw ad (zup W k j 1) k j := fun ad => by
  unfold zfw
  rw [h]
  show _ = if zup W k j 1 k j = 0 then _ else _
  rw [zup_s]
  rfl
/-- a court's place in the order -/
def zCn (n0 c : Nat) : Prop := n0 + 8 ≤ 129 ∧ zov n0 = c ∧ zov (n0 + 1) = c + 1 ∧ zov (n0 + 2) = c + 2 ∧ zov (n0 + 3) = c + 3 ∧ zov (n0 + 4) = c + 4 ∧ zov (n0 + 5) = c + 5 ∧ zov (n0 + 6) = c + 6 ∧ zov (n0 + 7) = c + 7 ∧ zpr (c + 1) = (n0, 8) ∧ zpr (c + 2) = (n0, 9) ∧ zpr (c + 3) = (n0, 10) ∧ zpr (c + 4) = (n0, 11) ∧ zpr (c + 5) = (n0, 12) ∧ zpr (c + 6) = (n0, 13) ∧ zpr (c + 7) = (n0, 14)
theorem zCn.le {n0 c : Nat} (h : zCn n0 c) : n0 + 8 ≤ 129 := h.1
theorem zCn.o0 {n0 c : Nat} (h : zCn n0 c) : zov n0 = c := h.2.1
theorem zCn.o1 {n0 c : Nat} (h : zCn n0 c) : zov (n0 + 1) = c + 1 := h.2.2.1
theorem zCn.o2 {n0 c : Nat} (h : zCn n0 c) : zov (n0 + 2) = c + 2 := h.2.2.2.1
theorem zCn.o3 {n0 c : Nat} (h : zCn n0 c) : zov (n0 + 3) = c + 3 := h.2.2.2.2.1
theorem zCn.o4 {n0 c : Nat} (h : zCn n0 c) : zov (n0 + 4) = c + 4 := h.2.2.2.2.2.1
theorem zCn.o5 {n0 c : Nat} (h : zCn n0 c) : zov (n0 + 5) = c + 5 := h.2.2.2.2.2.2.1
theorem zCn.o6 {n0 c : Nat} (h : zCn n0 c) : zov (n0 + 6) = c + 6 := h.2.2.2.2.2.2.2.1
theorem zCn.o7 {n0 c : Nat} (h : zCn n0 c) : zov (n0 + 7) = c + 7 := h.2.2.2.2.2.2.2.2.1
theorem zCn.q1 {n0 c : Nat} (h : zCn n0 c) : zpr (c + 1) = (n0, 8) := h.2.2.2.2.2.2.2.2.2.1
theorem zCn.q2 {n0 c : Nat} (h : zCn n0 c) : zpr (c + 2) = (n0, 9) := h.2.2.2.2.2.2.2.2.2.2.1
theorem zCn.q3 {n0 c : Nat} (h : zCn n0 c) : zpr (c + 3) = (n0, 10) := h.2.2.2.2.2.2.2.2.2.2.2.1
theorem zCn.q4 {n0 c : Nat} (h : zCn n0 c) : zpr (c + 4) = (n0, 11) := h.2.2.2.2.2.2.2.2.2.2.2.2.1
theorem zCn.q5 {n0 c : Nat} (h : zCn n0 c) : zpr (c + 5) = (n0, 12) := h.2.2.2.2.2.2.2.2.2.2.2.2.2.1
theorem zCn.q6 {n0 c : Nat} (h : zCn n0 c) : zpr (c + 6) = (n0, 13) := h.2.2.2.2.2.2.2.2.2.2.2.2.2.2.1
theorem zCn.q7 {n0 c : Nat} (h : zCn n0 c) : zpr (c + 7) = (n0, 14) := h.2.2.2.2.2.2.2.2.2.2.2.2.2.2.2
theorem zset1 {x : Int} (h : x = 1) : x ≠ 0 := by omega
theorem zup_id {W : zWd} {k : Nat} {i v : Int} (h : W k i = v) : zup W k i v = W := by
  funext k' i'
  unfold zup
  split
  · rename_i h1
    split
    · rename_i h2; rw [h1, h2, h]
    · rw [h1]
  · rfl
theorem nX0_put {n0 c N : Nat} {W : zWd} {q w v : Int} {Q : zWd → Prop} (hc : zCt c) (hn : zCn n0 c) (hN : N ≤ 129) (hm : n0 + 8 ≤ N) (hs : ∀ j : Int, 8 ≤ j → j < 15 → W c j = 1) (h0 : 0 ≤ q) (h6 : q < 6) (w0 : 0 ≤ w) (w10 : w < 10) (hq : Q (zup W (c + 5) (q * 10 + w) v)) : EvN MX0_put 0 0 (N) W [.ref c, zI q, zI w, zI v] Q := by
  refine ev_ofL (ls := [.ref c, zI q, zI w, zI v]) (by decide) rfl (fun _ => rfl) (fun _ => Nat.le_of_ble_eq_true rfl) ?_
  refine rl_aload_n (pc := 0) dX0_put_0 rfl ?_
  refine rl_getR (pc := 1) (n := n0) dX0_put_1 fX0_24 hc.k (by omega) hn.o0 hc.r12 (zset1 (hs 12 (by omega) (by omega))) ?_
  refine rl_iload_n (pc := 4) dX0_put_4 rfl ?_
  refine rl_bipush (n := (10)) dX0_put_5 ?_
  refine rl_imul (pc := 7) dX0_put_7 ?_
  refine rl_iload_n (pc := 8) dX0_put_8 rfl ?_
  refine rl_iadd (pc := 9) dX0_put_9 ?_
  refine rl_iload_n (pc := 10) dX0_put_10 rfl ?_
  refine rl_iast (pc := 11) (ix := (n0 + 5)) dX0_put_11 hc.a5 (by omega) (by omega) hn.o5 (by omega) (by omega) ?_
  exact rl_ret (pc := 12) dX0_put_12 rfl (hq)
def zC0 (W : zWd) (c : Nat) : Prop := (∀ j : Int, 0 ≤ j → j < 8 → W c j = 0) ∧ (∀ j : Int, 8 ≤ j → j < 15 → W c j = 1) ∧ W (c + 1) 0 = 1 ∧ (∀ s : Int, 0 ≤ s → s ≤ 20 → W (c + 3) s = -1 ∧ W (c + 4) s = 0) ∧ (∀ i : Int, i ≠ 0 → W (c + 1) i = 0) ∧ W (c + 2) = (fun _ => 0) ∧ W (c + 5) = (fun _ => 0) ∧ W (c + 6) = (fun _ => 0) ∧ W (c + 7) = (fun _ => 0)
theorem nX0_wipe {n0 c N : Nat} {W : zWd} {Q : zWd → Prop} (hc : zCt c) (hn : zCn n0 c) (hN : N ≤ 129) (hm : n0 + 8 ≤ N) (hs : ∀ j : Int, 8 ≤ j → j < 15 → W c j = 1) (hz : ∀ j : Int, 0 ≤ j → j < 8 → W c j = 0) (hr : ∀ m : Nat, 1 ≤ m → m ≤ 7 → W (c + m) = fun _ => 0) (hq : ∀ W' : zWd, (∀ k : Nat, k ≠ c + 1 → k ≠ c + 3 → k ≠ c + 4 → W' k = W k) → zC0 W' c → Q W') : EvN MX0_wipe 0 0 (N) W [.ref c] Q := by
  refine ev_ofL (ls := [.ref c, .null]) (by decide) rfl (fun _ => rfl) (fun _ => Nat.le_of_ble_eq_true rfl) ?_
  refine rl_aload_n (pc := 0) dX0_wipe_0 rfl ?_
  refine rl_iconst (n := 0) dX0_wipe_1 ?_
  refine rl_put (pc := 2) (ji := 0) (n := n0) dX0_wipe_2 fX0_37 fp_0_0 hc.k (by omega) (by omega) hn.o0 hc.i0 rfl ?_
  rw [zup_id (show W c 0 = 0 from hz 0 (by omega) (by omega))]
  refine rl_aload_n (pc := 5) dX0_wipe_5 rfl ?_
  refine rl_iconst (n := 0) dX0_wipe_6 ?_
  refine rl_put (pc := 7) (ji := 1) (n := n0) dX0_wipe_7 fX0_41 fp_0_1 hc.k (by omega) (by omega) hn.o0 hc.i1 rfl ?_
  rw [zup_id (show W c 1 = 0 from hz 1 (by omega) (by omega))]
  refine rl_aload_n (pc := 10) dX0_wipe_10 rfl ?_
  refine rl_iconst (n := 0) dX0_wipe_11 ?_
  refine rl_put (pc := 12) (ji := 2) (n := n0) dX0_wipe_12 fX0_44 fp_0_2 hc.k (by omega) (by omega) hn.o0 hc.i2 rfl ?_
  rw [zup_id (show W c 2 = 0 from hz 2 (by omega) (by omega))]
  refine rl_aload_n (pc := 15) dX0_wipe_15 rfl ?_
  refine rl_iconst (n := 0) dX0_wipe_16 ?_
  refine rl_put (pc := 17) (ji := 3) (n := n0) dX0_wipe_17 fX0_47 fp_0_3 hc.k (by omega) (by omega) hn.o0 hc.i3 rfl ?_
  rw [zup_id (show W c 3 = 0 from hz 3 (by omega) (by omega))]
  refine rl_aload_n (pc := 20) dX0_wipe_20 rfl ?_
  refine rl_iconst (n := 0) dX0_wipe_21 ?_
  refine rl_put (pc := 22) (ji := 4) (n := n0) dX0_wipe_22 fX0_50 fp_0_4 hc.k (by omega) (by omega) hn.o0 hc.i4 rfl ?_
  rw [zup_id (show W c 4 = 0 from hz 4 (by omega) (by omega))]
  refine rl_aload_n (pc := 25) dX0_wipe_25 rfl ?_
  refine rl_iconst (n := 0) dX0_wipe_26 ?_
  refine rl_put (pc := 27) (ji := 5) (n := n0) dX0_wipe_27 fX0_53 fp_0_5 hc.k (by omega) (by omega) hn.o0 hc.i5 rfl ?_
  rw [zup_id (show W c 5 = 0 from hz 5 (by omega) (by omega))]
  refine rl_aload_n (pc := 30) dX0_wipe_30 rfl ?_
  refine rl_iconst (n := 0) dX0_wipe_31 ?_
  refine rl_put (pc := 32) (ji := 6) (n := n0) dX0_wipe_32 fX0_56 fp_0_6 hc.k (by omega) (by omega) hn.o0 hc.i6 rfl ?_
  rw [zup_id (show W c 6 = 0 from hz 6 (by omega) (by omega))]
  refine rl_aload_n (pc := 35) dX0_wipe_35 rfl ?_
  refine rl_iconst (n := 0) dX0_wipe_36 ?_
  refine rl_put (pc := 37) (ji := 7) (n := n0) dX0_wipe_37 fX0_59 fp_0_7 hc.k (by omega) (by omega) hn.o0 hc.i7 rfl ?_
  rw [zup_id (show W c 7 = 0 from hz 7 (by omega) (by omega))]
  refine rl_aload_n (pc := 40) dX0_wipe_40 rfl ?_
  refine rl_getR (pc := 41) (n := n0) dX0_wipe_41 fX0_9 hc.k (by omega) hn.o0 hc.r8 (zset1 (hs 8 (by omega) (by omega))) ?_
  refine rl_iconst (n := 0) dX0_wipe_44 ?_
  refine rl_iconst (n := 1) dX0_wipe_45 ?_
  refine rl_iast (pc := 46) (ix := (n0 + 1)) dX0_wipe_46 hc.a1 (by omega) (by omega) hn.o1 (by omega) (by decide) ?_
  have f1 : ∀ k : Nat, k ≠ c + 1 → zup W (c + 1) 0 1 k = W k := fun k g => zup_other k g
  have f2 : zup W (c + 1) 0 1 (c + 1) 0 = 1 := zup_s
  have f3 : ∀ i : Int, i ≠ 0 → zup W (c + 1) 0 1 (c + 1) i = W (c + 1) i := fun i g => zup_i g
  generalize zup W (c + 1) 0 1 = W1 at f1 f2 f3 ⊢
  refine rl_iconst (n := 0) dX0_wipe_47 ?_
  refine rl_istore_n (pc := 48) dX0_wipe_48 (by decide) ?_
  have loop : ∀ (n : Nat) (i : Int) (Wi : zWd), 0 ≤ i → i ≤ 21 → (∀ k : Nat, k ≠ c + 3 → k ≠ c + 4 → Wi k = W1 k) → (∀ s : Int, 0 ≤ s → s < i → Wi (c + 3) s = -1 ∧ Wi (c + 4) s = 0) → (21 - i).toNat < n → RN MX0_wipe 0 0 N Wi 49 [.ref c, zI i] [] (zEndL MX0_wipe (N + 0) Q) := by
    intro n
    induction n with
    | zero => intro i Wi _ _ _ _ hm9; omega
    | succ n ih =>
      intro i Wi h0 h1 hO hL hm9
      refine rl_iload_n (pc := 49) dX0_wipe_49 rfl ?_
      refine rl_bipush (n := (20)) dX0_wipe_50 ?_
      refine rl_icmp_gt (pc := 52) (tgt := 75) dX0_wipe_52 (by decide) (by unfold zR; omega) (by unfold zR; omega)  (fun h52 => ?_) (fun h52 => ?_)
      · exact rl_ret (pc := 75) dX0_wipe_75 rfl (hq Wi (fun k g1 g2 g3 => by rw [hO k g2 g3]; exact f1 k g1) ⟨fun j g0 g1 => by rw [hO c (by omega) (by omega), f1 c (by omega)]; exact hz j g0 g1, fun j g0 g1 => by rw [hO c (by omega) (by omega), f1 c (by omega)]; exact hs j g0 g1, by rw [hO (c + 1) (by omega) (by omega)]; exact f2, fun s g0 g1 => hL s g0 (by omega), fun j g => by rw [hO (c + 1) (by omega) (by omega), f3 j g, hr 1 (by omega) (by omega)], by rw [hO (c + 2) (by omega) (by omega), f1 (c + 2) (by omega)]; exact hr 2 (by omega) (by omega), by rw [hO (c + 5) (by omega) (by omega), f1 (c + 5) (by omega)]; exact hr 5 (by omega) (by omega), by rw [hO (c + 6) (by omega) (by omega), f1 (c + 6) (by omega)]; exact hr 6 (by omega) (by omega), by rw [hO (c + 7) (by omega) (by omega), f1 (c + 7) (by omega)]; exact hr 7 (by omega) (by omega)⟩)
      · refine rl_aload_n (pc := 55) dX0_wipe_55 rfl ?_
        refine rl_getR (pc := 56) (n := n0) dX0_wipe_56 fX0_18 hc.k (by omega) hn.o0 hc.r10 (zset1 ((congrFun ((hO c (by omega) (by omega)).trans (f1 c (by omega))) 10).trans (hs 10 (by omega) (by omega)))) ?_
        refine rl_iload_n (pc := 59) dX0_wipe_59 rfl ?_
        refine rl_iconst (n := (-1)) dX0_wipe_60 ?_
        refine rl_iast (pc := 61) (ix := (n0 + 3)) dX0_wipe_61 hc.a3 (by omega) (by omega) hn.o3 (by omega) (by omega) ?_
        refine rl_aload_n (pc := 62) dX0_wipe_62 rfl ?_
        refine rl_getR (pc := 63) (n := n0) dX0_wipe_63 fX0_21 hc.k (by omega) hn.o0 hc.r11 (zset1 ((zup_k (by omega)).trans ((congrFun ((hO c (by omega) (by omega)).trans (f1 c (by omega))) 11).trans (hs 11 (by omega) (by omega))))) ?_
        refine rl_iload_n (pc := 66) dX0_wipe_66 rfl ?_
        refine rl_iconst (n := 0) dX0_wipe_67 ?_
        refine rl_iast (pc := 68) (ix := (n0 + 4)) dX0_wipe_68 hc.a4 (by omega) (by omega) hn.o4 (by omega) (by omega) ?_
        refine rl_iinc (pc := 69) dX0_wipe_69 rfl (by decide) ?_
        refine rl_goto (pc := 72) (tgt := 49) dX0_wipe_72 (by decide) ?_
        exact ih (i + 1) _ (by omega) (by omega) (fun k g1 g2 => by rw [zup_other k g2, zup_other k g1]; exact hO k g1 g2) (fun s g0 g1 => by
          by_cases e : s = i
          · subst e
            exact ⟨by rw [zup_k (by omega), zup_s], by rw [zup_s]⟩
          · have h9 := hL s g0 (by omega)
            exact ⟨by rw [zup_k (by omega), zup_i e]; exact h9.1, by rw [zup_i e, zup_k (by omega)]; exact h9.2⟩) (by omega)
  exact loop 22 0 W1 (by omega) (by omega) (fun _ _ _ => rfl) (fun s g0 g1 => by omega) (by omega)
