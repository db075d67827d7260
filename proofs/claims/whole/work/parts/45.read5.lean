theorem sSemi_n {B : Nat → Int} {N p p' : Nat} {a a' : Int → Int} (h : sSemi B N p a = .inr (p', a')) : a' = a := by
  unfold sSemi at h
  by_cases z : p < N ∧ B p = 59
  · rw [if_pos z] at h; cases h; rfl
  · rw [if_neg z] at h; cases h
theorem zBind_in {r : zRs} {f : Nat → (Int → Int) → zRs} {p' : Nat} {a' : Int → Int} (h : zBind r f = .inr (p', a')) : ∃ p a, r = .inr (p, a) ∧ f p a = .inr (p', a') := by
  cases r with
  | inl e => cases h
  | inr g => exact ⟨g.1, g.2, rfl, h⟩
theorem sParts_n {B : Nat → Int} {N p p' : Nat} {a a' : Int → Int} {q : Int} (hq : 0 ≤ q) (h : sParts B N p a q = .inr (p', a')) {j : Int} (hj : j < 18) : a' j = a j := by
  obtain ⟨p1, a1, h1, h⟩ := zBind_in h
  obtain ⟨p2, a2, h2, h⟩ := zBind_in h
  obtain ⟨p3, a3, h3, h⟩ := zBind_in h
  obtain ⟨p4, a4, h4, h⟩ := zBind_in h
  obtain ⟨p5, a5, h5, h⟩ := zBind_in h
  obtain ⟨p6, a6, h6, h⟩ := zBind_in h
  rw [sSemi_n h, sPart_n hq (by decide) h6 (by omega), sOwn_n (by omega) _ _ _ _ _ h5, sPart_n hq (by decide) h4 (by omega), sPart_n hq (by decide) h3 (by omega), sPart_n hq (by decide) h2 (by omega), sPart_n hq (by decide) h1 (by omega)]
theorem sName_n {B : Nat → Int} {N p p' : Nat} {a a' : Int → Int} {pl : Int} (hp : 0 ≤ pl) (h : sName B N p a pl = .inr (p', a')) {j : Int} (hj : j < 58) : a' j = a j := by
  unfold sName at h
  by_cases z : sWe B N p = p ∨ 8 < sWe B N p - p
  · rw [if_pos z] at h; cases h
  · rw [if_neg z] at h
    by_cases y : (List.range pl.toNat).any (fun o : Nat => sameN (aLet a pl B p (sWe B N p - p)) (o : Int) pl) = true
    · rw [if_pos y] at h; cases h
    · rw [if_neg y] at h; cases h; exact aLet_n hp hj _
def sPlayers (B : Nat → Int) (N : Nat) : Nat → Nat → Nat → (Int → Int) → zRs
  | 0, _, _, _ => .inl (0, 0)
  | n + 1, q, p, a => if 2 ≤ q ∧ p = N then .inr (p, a) else if ¬ sW B N p wPlayer = true then .inl (-2, p) else if q = 6 then .inl (-5, p) else
      zBind (sName B N (adv B N p) (aAddP a) q) fun p a => zBind (sParts B N p a q) fun p a => sPlayers B N n (q + 1) p a
def sWide (B : Nat → Int) (N p : Nat) : Int := if sW B N p wOne = true then 1 else if sW B N p wTwo = true then 2 else 0
def sRows (B : Nat → Int) (N : Nat) : Nat → Nat → Nat → (Int → Int) → zRs
  | 0, _, _, _ => .inl (0, 0)
  | n + 1, r, p, a => if sWide B N p = 0 then (if r < 2 then .inl (-2, p) else sSemi B N p a) else if r = 10 then .inl (-5, p) else sRows B N n (r + 1) (adv B N p) (aRow a (sWide B N p))
theorem sRows_in {B : Nat → Int} {N : Nat} : ∀ (n r p p' : Nat) (a a' : Int → Int), a 0 = r → a 2 = 0 → sRows B N n r p a = .inr (p', a') → 2 ≤ a' 0 ∧ a' 2 = 0 := by
  intro n
  induction n with
  | zero => intro r p p' a a' _ _ h; cases h
  | succ n ih =>
    intro r p p' a a' h0 h2 h
    unfold sRows at h
    by_cases z : sWide B N p = 0
    · rw [if_pos z] at h
      by_cases y : r < 2
      · rw [if_pos y] at h; cases h
      · rw [if_neg y] at h
        rw [sSemi_n h]; omega
    · rw [if_neg z] at h
      by_cases y : r = 10
      · rw [if_pos y] at h; cases h
      · rw [if_neg y] at h
        exact ih (r + 1) _ _ _ _ (by rw [aRow_0]; omega) (by rw [aRow_n (by decide) (by decide) (by omega)]; exact h2) h
theorem sPlayers_in {B : Nat → Int} {N : Nat} : ∀ (n q p p' : Nat) (a a' : Int → Int), a 2 = q → sPlayers B N n q p a = .inr (p', a') → 2 ≤ a' 2 ∧ a' 0 = a 0 := by
  intro n
  induction n with
  | zero => intro q p p' a a' _ h; cases h
  | succ n ih =>
    intro q p p' a a' h2 h
    unfold sPlayers at h
    by_cases z : 2 ≤ q ∧ p = N
    · rw [if_pos z] at h; cases h; exact ⟨by omega, rfl⟩
    · rw [if_neg z] at h
      by_cases y : ¬ sW B N p wPlayer = true
      · rw [if_pos y] at h; cases h
      · rw [if_neg y] at h
        by_cases x : q = 6
        · rw [if_pos x] at h; cases h
        · rw [if_neg x] at h
          obtain ⟨p1, a1, g1, h⟩ := zBind_in h
          obtain ⟨p2, a2, g2, h⟩ := zBind_in h
          have e1 : a1 2 = q + 1 := by rw [sName_n (by omega) g1 (by decide), aAddP_2, h2]
          have e2 : a2 2 = q + 1 := by rw [sParts_n (by omega) g2 (by decide)]; exact e1
          have f0 : a2 0 = a 0 := by rw [sParts_n (by omega) g2 (by decide), sName_n (by omega) g1 (by decide), aAddP_n (by decide) (by omega)]
          have h9 := ih (q + 1) _ _ _ _ (by rw [e2]; omega) h
          exact ⟨h9.1, h9.2.trans f0⟩
def sCourt (B : Nat → Int) (N : Nat) : zRs :=
  if sW B N (sSk B N 0) wCourt = true then zBind (sRows B N 11 0 (adv B N (sSk B N 0)) a00) fun p a => zBind (sDrift B N p a) fun p a => sPlayers B N 7 0 p a else .inl (-2, sSk B N 0)
theorem sDrift_n {B : Nat → Int} {N p p' : Nat} {a a' : Int → Int} (h : sDrift B N p a = .inr (p', a')) {j : Int} (hj : j ≠ 3) : a' j = a j := by
  unfold sDrift at h
  by_cases z : sW B N p wDrift = true
  · rw [if_pos z] at h
    by_cases y : adv B N p < N ∧ B (adv B N p) = 45
    · rw [if_pos y] at h
      split at h
      · cases h
      · rw [sSemi_n h]; exact iup_n hj
    · rw [if_neg y] at h
      split at h
      · cases h
      · rw [sSemi_n h]; exact iup_n hj
  · rw [if_neg z] at h; cases h; rfl
theorem dX3_readPlayers_0 : decode cX3_readPlayers 0 = .ok (.iconst 0, 1) := by decide +kernel
theorem dX3_readPlayers_1 : decode cX3_readPlayers 1 = .ok (.istore_n 2, 1) := by decide +kernel
theorem dX3_readPlayers_2 : decode cX3_readPlayers 2 = .ok (.iload_n 2, 1) := by decide +kernel
theorem dX3_readPlayers_3 : decode cX3_readPlayers 3 = .ok (.bipush 6, 2) := by decide +kernel
theorem dX3_readPlayers_5 : decode cX3_readPlayers 5 = .ok (.if_icmp .gt 96, 3) := by decide +kernel
theorem dX3_readPlayers_8 : decode cX3_readPlayers 8 = .ok (.iload_n 2, 1) := by decide +kernel
theorem dX3_readPlayers_9 : decode cX3_readPlayers 9 = .ok (.iconst 2, 1) := by decide +kernel
theorem dX3_readPlayers_10 : decode cX3_readPlayers 10 = .ok (.if_icmp .lt 16, 3) := by decide +kernel
theorem dX3_readPlayers_13 : decode cX3_readPlayers 13 = .ok (.aload_n 0, 1) := by decide +kernel
theorem dX3_readPlayers_14 : decode cX3_readPlayers 14 = .ok (.getfield 50, 3) := by decide +kernel
theorem dX3_readPlayers_17 : decode cX3_readPlayers 17 = .ok (.aload_n 0, 1) := by decide +kernel
theorem dX3_readPlayers_18 : decode cX3_readPlayers 18 = .ok (.getfield 19, 3) := by decide +kernel
theorem dX3_readPlayers_21 : decode cX3_readPlayers 21 = .ok (.if_icmp .ne 5, 3) := by decide +kernel
theorem dX3_readPlayers_24 : decode cX3_readPlayers 24 = .ok (.iconst 1, 1) := by decide +kernel
theorem dX3_readPlayers_25 : decode cX3_readPlayers 25 = .ok (.ireturn, 1) := by decide +kernel
theorem dX3_readPlayers_26 : decode cX3_readPlayers 26 = .ok (.aload_n 0, 1) := by decide +kernel
theorem dX3_readPlayers_27 : decode cX3_readPlayers 27 = .ok (.ldc 88, 2) := by decide +kernel
theorem dX3_readPlayers_29 : decode cX3_readPlayers 29 = .ok (.invokevirtual 59, 3) := by decide +kernel
theorem dX3_readPlayers_32 : decode cX3_readPlayers 32 = .ok (.ifCond .ne 14, 3) := by decide +kernel
theorem dX3_readPlayers_35 : decode cX3_readPlayers 35 = .ok (.aload_n 0, 1) := by decide +kernel
theorem dX3_readPlayers_36 : decode cX3_readPlayers 36 = .ok (.bipush (-2), 2) := by decide +kernel
theorem dX3_readPlayers_38 : decode cX3_readPlayers 38 = .ok (.aload_n 0, 1) := by decide +kernel
theorem dX3_readPlayers_39 : decode cX3_readPlayers 39 = .ok (.getfield 50, 3) := by decide +kernel
theorem dX3_readPlayers_42 : decode cX3_readPlayers 42 = .ok (.invokevirtual 53, 3) := by decide +kernel
theorem dX3_readPlayers_45 : decode cX3_readPlayers 45 = .ok (.ireturn, 1) := by decide +kernel
theorem dX3_readPlayers_46 : decode cX3_readPlayers 46 = .ok (.iload_n 2, 1) := by decide +kernel
theorem dX3_readPlayers_47 : decode cX3_readPlayers 47 = .ok (.bipush 6, 2) := by decide +kernel
theorem dX3_readPlayers_49 : decode cX3_readPlayers 49 = .ok (.if_icmp .ne 14, 3) := by decide +kernel
theorem dX3_readPlayers_52 : decode cX3_readPlayers 52 = .ok (.aload_n 0, 1) := by decide +kernel
theorem dX3_readPlayers_53 : decode cX3_readPlayers 53 = .ok (.bipush (-5), 2) := by decide +kernel
theorem dX3_readPlayers_55 : decode cX3_readPlayers 55 = .ok (.aload_n 0, 1) := by decide +kernel
theorem dX3_readPlayers_56 : decode cX3_readPlayers 56 = .ok (.getfield 50, 3) := by decide +kernel
theorem dX3_readPlayers_59 : decode cX3_readPlayers 59 = .ok (.invokevirtual 53, 3) := by decide +kernel
theorem dX3_readPlayers_62 : decode cX3_readPlayers 62 = .ok (.ireturn, 1) := by decide +kernel
theorem dX3_readPlayers_63 : decode cX3_readPlayers 63 = .ok (.aload_n 1, 1) := by decide +kernel
theorem dX3_readPlayers_64 : decode cX3_readPlayers 64 = .ok (.invokevirtual 90, 3) := by decide +kernel
theorem dX3_readPlayers_67 : decode cX3_readPlayers 67 = .ok (.aload_n 0, 1) := by decide +kernel
theorem dX3_readPlayers_68 : decode cX3_readPlayers 68 = .ok (.aload_n 0, 1) := by decide +kernel
theorem dX3_readPlayers_69 : decode cX3_readPlayers 69 = .ok (.getfield 71, 3) := by decide +kernel
theorem dX3_readPlayers_72 : decode cX3_readPlayers 72 = .ok (.invokevirtual 27, 3) := by decide +kernel
theorem dX3_readPlayers_75 : decode cX3_readPlayers 75 = .ok (.aload_n 0, 1) := by decide +kernel
theorem dX3_readPlayers_76 : decode cX3_readPlayers 76 = .ok (.aload_n 1, 1) := by decide +kernel
theorem dX3_readPlayers_77 : decode cX3_readPlayers 77 = .ok (.iload_n 2, 1) := by decide +kernel
theorem dX3_readPlayers_78 : decode cX3_readPlayers 78 = .ok (.invokevirtual 93, 3) := by decide +kernel
theorem dX3_readPlayers_81 : decode cX3_readPlayers 81 = .ok (.ifCond .eq 12, 3) := by decide +kernel
theorem dX3_readPlayers_84 : decode cX3_readPlayers 84 = .ok (.aload_n 0, 1) := by decide +kernel
theorem dX3_readPlayers_85 : decode cX3_readPlayers 85 = .ok (.aload_n 1, 1) := by decide +kernel
theorem dX3_readPlayers_86 : decode cX3_readPlayers 86 = .ok (.iload_n 2, 1) := by decide +kernel
theorem dX3_readPlayers_87 : decode cX3_readPlayers 87 = .ok (.invokevirtual 97, 3) := by decide +kernel
theorem dX3_readPlayers_90 : decode cX3_readPlayers 90 = .ok (.ifCond .ne 5, 3) := by decide +kernel
theorem dX3_readPlayers_93 : decode cX3_readPlayers 93 = .ok (.iconst 0, 1) := by decide +kernel
theorem dX3_readPlayers_94 : decode cX3_readPlayers 94 = .ok (.ireturn, 1) := by decide +kernel
theorem dX3_readPlayers_95 : decode cX3_readPlayers 95 = .ok (.iinc 2 1, 3) := by decide +kernel
theorem dX3_readPlayers_98 : decode cX3_readPlayers 98 = .ok (.goto (-96), 3) := by decide +kernel
theorem dX3_readPlayers_101 : decode cX3_readPlayers 101 = .ok (.iconst 0, 1) := by decide +kernel
theorem dX3_readPlayers_102 : decode cX3_readPlayers 102 = .ok (.ireturn, 1) := by decide +kernel
theorem eX3_readPlayers {W : zWd} {B : Nat → Int} {N p : Nat} {a : Int → Int}  {Q : Option Value → zWd → Prop} {X : zX} (hR : zRd W B N p) (hC : zCP W 8 a) (h2 : a 2 = 0) (h0 : 2 ≤ a 0) (hq : zRQ W B N (sPlayers B N 7 0 p a) Q) : Ev MX3_readPlayers 8 0 W [.ref 112, .ref 8] Q X := by
  refine ev_of (ls := [.ref 112, .ref 8, .null]) (by decide) rfl (fun _ => rfl) (fun _ => Nat.le_of_ble_eq_true rfl) (Or.inl rfl) ?_
  have loop : ∀ (n : Nat) (q : Nat) (Wi : zWd) (pi : Nat) (ai : Int → Int) (W : zWd) , q ≤ 6 → zRd Wi B N pi → zCP Wi 8 ai → ai 2 = q → 2 ≤ ai 0 → zOffq W Wi → Wi 112 6 = W 112 6 → sPlayers B N (7 - q) q pi ai = sPlayers B N (7 - q) q pi ai → zRQ W B N (sPlayers B N (7 - q) q pi ai) Q → 7 - q < n → RR MX3_readPlayers 8 0 Wi 2 [.ref 112, .ref 8, zI (q : Int)] [] (zEnd MX3_readPlayers Q X) X := by
    intro n
    induction n with
    | zero => intro q Wi pi ai W _ _ _ _ _ _ _ _ _ hm9; omega
    | succ n ih =>
      intro q Wi pi ai W hi hRi hCi h2 h0 hO hE hL hq hm9
      obtain ⟨r9, hr9⟩ : ∃ r, r = sPlayers B N (7 - q) q pi ai := ⟨_, rfl⟩
      rw [← hr9] at hq
      have hL : sPlayers B N (7 - q) q pi ai = r9 := hr9.symm
      refine rr_iload_n (pc := 2) dX3_readPlayers_2 rfl ?_
      refine rr_bipush (n := (6)) dX3_readPlayers_3 ?_
      refine rr_icmp_gt (pc := 5) (tgt := 101) dX3_readPlayers_5 (by decide) (by unfold zR; omega) (by unfold zR; omega) (fun h5 => ?_) (fun h5 => ?_)
      · omega
      · rw [show 7 - q = (7 - (q + 1)) + 1 by omega] at hL
        unfold sPlayers at hL
        have h600 := hRi.1.2.1
        have hpN := hRi.2.2.2
        have hsq := hCi.2.2.sq
        refine rr_iload_n (pc := 8) dX3_readPlayers_8 rfl ?_
        refine rr_iconst (n := 2) dX3_readPlayers_9 ?_
        refine rr_icmp_lt (pc := 10) (tgt := 26) dX3_readPlayers_10 (by decide) (by unfold zR; omega) (by unfold zR; omega) (fun h10 => ?_) (fun h10 => ?_)
        · refine rr_aload_n (pc := 26) dX3_readPlayers_26 rfl ?_
          refine rr_ldcs (pc := 27) 4 dX3_readPlayers_27 rfl ?_
          refine rr_inv0 (M' := MX3_nextIsWord) (k := 112) (As := [_]) (pc := 29) dX3_readPlayers_29 lX3_59 kX3_nextIsWord vX3_nextIsWord zk_112 (by decide) rfl (by decide) (by decide) (Nat.le_of_ble_eq_true rfl) rfl (eX3_nextIsWord (i := 4) zS_4 zO_4 hRi ?_)
          refine rr_if_ne (pc := 32) (tgt := 46) dX3_readPlayers_32 (by decide) (by split <;> (unfold zR; omega)) (fun h32 => ?_) (fun h32 => ?_)
          · refine rr_iload_n (pc := 46) dX3_readPlayers_46 rfl ?_
            refine rr_bipush (n := (6)) dX3_readPlayers_47 ?_
            refine rr_icmp_ne (pc := 49) (tgt := 63) dX3_readPlayers_49 (by decide) (by unfold zR; omega) (by unfold zR; omega) (fun h49 => ?_) (fun h49 => ?_)
            · refine rr_aload_n (pc := 63) dX3_readPlayers_63 rfl ?_
              rw [if_neg (by omega), if_neg (fun z => z (z_i10n h32)), if_neg (by omega)] at hL
              have hpp := hCi.2.2.2.2.2.2.2.1
              refine rr_invN (M' := MX0_addPlayer) (k := 8) (As := []) (pc := 64) dX3_readPlayers_64 lX3_90 kX0_addPlayer vX0_addPlayer zCt_8.k (by decide) rfl (by decide) (by decide) (Nat.le_of_ble_eq_true rfl) rfl (eX0_addPlayer zCt_8 hCi (by omega) (by omega) (fun W1 o1 c1 => ?_))
              have r1 := o1.rd hRi
              have e1 : aAddP ai 2 = q + 1 := by rw [aAddP_2, h2]
              refine rr_aload_n (pc := 67) dX3_readPlayers_67 rfl ?_
              refine rr_aload_n (pc := 68) dX3_readPlayers_68 rfl ?_
              refine rr_getI (pc := 69) (ji := 3) dX3_readPlayers_69 fX3_71 zk_112 zr_112_3 rfl ?_
              rw [r1.2.2.1]
              refine rr_inv0 (M' := MX3_moveTo) (k := 112) (As := [_]) (pc := 72) dX3_readPlayers_72 lX3_27 kX3_moveTo vX3_moveTo zk_112 (by decide) rfl (by decide) (by decide) (Nat.le_of_ble_eq_true rfl) rfl (eX3_moveTo r1.1 (sRun_rng _ _ r1.2.2.2).2 (fun W2 o2 f2 t2 k2 => ?_))
              have r2 : zRd W2 B N (adv B N pi) := ⟨t2, k2⟩
              have c2 := o2.cp c1
              have E2 : W2 112 6 = W 112 6 := (f2 6 (by decide) (by decide)).trans (o1.rd6.trans hE)
              have hq2 := hq.from (W1 := W2) hL.symm (hO.tr (o1.q.tr o2.q)) E2
              refine rr_aload_n (pc := 75) dX3_readPlayers_75 rfl ?_
              refine rr_aload_n (pc := 76) dX3_readPlayers_76 rfl ?_
              refine rr_iload_n (pc := 77) dX3_readPlayers_77 rfl ?_
              refine rr_inv0 (M' := MX3_readName) (k := 112) (As := [_, _]) (pc := 78) dX3_readPlayers_78 lX3_93 kX3_readName vX3_readName zk_112 (by decide) rfl (by decide) (by decide) (Nat.le_of_ble_eq_true rfl) rfl (eX3_readName r2 c2 (by rw [e1]; omega) (by omega) (by rw [← h2, aAddP_p (by omega) (by decide) (by decide)]; rfl) (hq2.bnd (fun W3 hz => ?_) (fun p3 a3 W3 hr3 r3 c3 hq3 => ?_)))
              · refine rr_if_eq (pc := 81) (tgt := 93) dX3_readPlayers_81 (by decide) (by unfold zR; omega) (fun h => ?_) (fun h => by omega)
                refine rr_iconst (n := 0) dX3_readPlayers_93 ?_
                exact rr_reti (pc := 94) dX3_readPlayers_94 rfl rfl rfl rfl (hz)
              · refine rr_if_eq (pc := 81) (tgt := 93) dX3_readPlayers_81 (by decide) (by unfold zR; omega) (fun h => by omega) (fun h => ?_)
                refine rr_aload_n (pc := 84) dX3_readPlayers_84 rfl ?_
                refine rr_aload_n (pc := 85) dX3_readPlayers_85 rfl ?_
                refine rr_iload_n (pc := 86) dX3_readPlayers_86 rfl ?_
                have e3 : a3 2 = q + 1 := by rw [sName_n (by omega) hr3 (by decide)]; exact e1
                have e30 : a3 0 = ai 0 := by rw [sName_n (by omega) hr3 (by decide)]; exact aAddP_n (by decide) (by omega)
                refine rr_inv0 (M' := MX3_readParts) (k := 112) (As := [_, _]) (pc := 87) dX3_readPlayers_87 lX3_97 kX3_readParts vX3_readParts zk_112 (by decide) rfl (by decide) (by decide) (Nat.le_of_ble_eq_true rfl) rfl (eX3_readParts r3 c3 (by omega) (by rw [e3]; omega) (hq3.bnd (fun W4 hz => ?_) (fun p4 a4 W4 hr4 r4 c4 hq4 => ?_)))
                · refine rr_if_ne (pc := 90) (tgt := 95) dX3_readPlayers_90 (by decide) (by unfold zR; omega) (fun h => by omega) (fun h => ?_)
                  refine rr_iconst (n := 0) dX3_readPlayers_93 ?_
                  exact rr_reti (pc := 94) dX3_readPlayers_94 rfl rfl rfl rfl (hz)
                · refine rr_if_ne (pc := 90) (tgt := 95) dX3_readPlayers_90 (by decide) (by unfold zR; omega) (fun h => ?_) (fun h => by omega)
                  refine rr_iinc (pc := 95) dX3_readPlayers_95 rfl (by decide) ?_
                  refine rr_goto (pc := 98) (tgt := 2) dX3_readPlayers_98 (by decide) ?_
                  have e4 : a4 2 = q + 1 := by rw [sParts_n (by omega) hr4 (by decide)]; exact e3
                  have e40 : a4 0 = ai 0 := by rw [sParts_n (by omega) hr4 (by decide)]; exact e30
                  refine rr_eqL ?_ (ih (q + 1) W4 p4 a4 _ (by omega) r4 c4 (by rw [e4]; omega) (by rw [e40]; exact h0) zOffq.rf rfl rfl hq4 (by omega))
                  rfl
            · refine rr_aload_n (pc := 52) dX3_readPlayers_52 rfl ?_
              refine rr_bipush (n := (-5)) dX3_readPlayers_53 ?_
              refine rr_aload_n (pc := 55) dX3_readPlayers_55 rfl ?_
              refine rr_getI (pc := 56) (ji := 2) dX3_readPlayers_56 fX3_50 zk_112 zr_112_2 rfl ?_
              rw [hRi.2.1]
              refine rr_inv0 (M' := MX3_fail) (k := 112) (As := [_, _]) (pc := 59) dX3_readPlayers_59 lX3_53 kX3_fail vX3_fail zk_112 (by decide) rfl (by decide) (by decide) (Nat.le_of_ble_eq_true rfl) rfl (eX3_fail (fun W1 o1 f5 f6 => ?_))
              · exact rr_reti (pc := 62) dX3_readPlayers_62 rfl rfl rfl rfl (hq.e (by rw [← hL, if_neg (by omega), if_neg (fun z => z (z_i10n h32)), if_pos (by omega)]) (hO.tr o1.q) (o1.cp hCi).by f5 f6)
          · refine rr_aload_n (pc := 35) dX3_readPlayers_35 rfl ?_
            refine rr_bipush (n := (-2)) dX3_readPlayers_36 ?_
            refine rr_aload_n (pc := 38) dX3_readPlayers_38 rfl ?_
            refine rr_getI (pc := 39) (ji := 2) dX3_readPlayers_39 fX3_50 zk_112 zr_112_2 rfl ?_
            rw [hRi.2.1]
            refine rr_inv0 (M' := MX3_fail) (k := 112) (As := [_, _]) (pc := 42) dX3_readPlayers_42 lX3_53 kX3_fail vX3_fail zk_112 (by decide) rfl (by decide) (by decide) (Nat.le_of_ble_eq_true rfl) rfl (eX3_fail (fun W1 o1 f5 f6 => ?_))
            · exact rr_reti (pc := 45) dX3_readPlayers_45 rfl rfl rfl rfl (hq.e (by rw [← hL, if_neg (by omega), if_pos (z_i10 (by omega))]) (hO.tr o1.q) (o1.cp hCi).by f5 f6)
        · refine rr_aload_n (pc := 13) dX3_readPlayers_13 rfl ?_
          refine rr_getI (pc := 14) (ji := 2) dX3_readPlayers_14 fX3_50 zk_112 zr_112_2 rfl ?_
          rw [hRi.2.1]
          refine rr_aload_n (pc := 17) dX3_readPlayers_17 rfl ?_
          refine rr_getI (pc := 18) (ji := 1) dX3_readPlayers_18 fX3_19 zk_112 zr_112_1 rfl ?_
          rw [hRi.1.1]
          refine rr_icmp_ne (pc := 21) (tgt := 26) dX3_readPlayers_21 (by decide) (by unfold zR; omega) (by unfold zR; omega) (fun h21 => ?_) (fun h21 => ?_)
          · refine rr_aload_n (pc := 26) dX3_readPlayers_26 rfl ?_
            refine rr_ldcs (pc := 27) 4 dX3_readPlayers_27 rfl ?_
            refine rr_inv0 (M' := MX3_nextIsWord) (k := 112) (As := [_]) (pc := 29) dX3_readPlayers_29 lX3_59 kX3_nextIsWord vX3_nextIsWord zk_112 (by decide) rfl (by decide) (by decide) (Nat.le_of_ble_eq_true rfl) rfl (eX3_nextIsWord (i := 4) zS_4 zO_4 hRi ?_)
            refine rr_if_ne (pc := 32) (tgt := 46) dX3_readPlayers_32 (by decide) (by split <;> (unfold zR; omega)) (fun h32 => ?_) (fun h32 => ?_)
            · refine rr_iload_n (pc := 46) dX3_readPlayers_46 rfl ?_
              refine rr_bipush (n := (6)) dX3_readPlayers_47 ?_
              refine rr_icmp_ne (pc := 49) (tgt := 63) dX3_readPlayers_49 (by decide) (by unfold zR; omega) (by unfold zR; omega) (fun h49 => ?_) (fun h49 => ?_)
              · refine rr_aload_n (pc := 63) dX3_readPlayers_63 rfl ?_
                rw [if_neg (by omega), if_neg (fun z => z (z_i10n h32)), if_neg (by omega)] at hL
                have hpp := hCi.2.2.2.2.2.2.2.1
                refine rr_invN (M' := MX0_addPlayer) (k := 8) (As := []) (pc := 64) dX3_readPlayers_64 lX3_90 kX0_addPlayer vX0_addPlayer zCt_8.k (by decide) rfl (by decide) (by decide) (Nat.le_of_ble_eq_true rfl) rfl (eX0_addPlayer zCt_8 hCi (by omega) (by omega) (fun W1 o1 c1 => ?_))
                have r1 := o1.rd hRi
                have e1 : aAddP ai 2 = q + 1 := by rw [aAddP_2, h2]
                refine rr_aload_n (pc := 67) dX3_readPlayers_67 rfl ?_
                refine rr_aload_n (pc := 68) dX3_readPlayers_68 rfl ?_
                refine rr_getI (pc := 69) (ji := 3) dX3_readPlayers_69 fX3_71 zk_112 zr_112_3 rfl ?_
                rw [r1.2.2.1]
                refine rr_inv0 (M' := MX3_moveTo) (k := 112) (As := [_]) (pc := 72) dX3_readPlayers_72 lX3_27 kX3_moveTo vX3_moveTo zk_112 (by decide) rfl (by decide) (by decide) (Nat.le_of_ble_eq_true rfl) rfl (eX3_moveTo r1.1 (sRun_rng _ _ r1.2.2.2).2 (fun W2 o2 f2 t2 k2 => ?_))
                have r2 : zRd W2 B N (adv B N pi) := ⟨t2, k2⟩
                have c2 := o2.cp c1
                have E2 : W2 112 6 = W 112 6 := (f2 6 (by decide) (by decide)).trans (o1.rd6.trans hE)
                have hq2 := hq.from (W1 := W2) hL.symm (hO.tr (o1.q.tr o2.q)) E2
                refine rr_aload_n (pc := 75) dX3_readPlayers_75 rfl ?_
                refine rr_aload_n (pc := 76) dX3_readPlayers_76 rfl ?_
                refine rr_iload_n (pc := 77) dX3_readPlayers_77 rfl ?_
                refine rr_inv0 (M' := MX3_readName) (k := 112) (As := [_, _]) (pc := 78) dX3_readPlayers_78 lX3_93 kX3_readName vX3_readName zk_112 (by decide) rfl (by decide) (by decide) (Nat.le_of_ble_eq_true rfl) rfl (eX3_readName r2 c2 (by rw [e1]; omega) (by omega) (by rw [← h2, aAddP_p (by omega) (by decide) (by decide)]; rfl) (hq2.bnd (fun W3 hz => ?_) (fun p3 a3 W3 hr3 r3 c3 hq3 => ?_)))
                · refine rr_if_eq (pc := 81) (tgt := 93) dX3_readPlayers_81 (by decide) (by unfold zR; omega) (fun h => ?_) (fun h => by omega)
                  refine rr_iconst (n := 0) dX3_readPlayers_93 ?_
                  exact rr_reti (pc := 94) dX3_readPlayers_94 rfl rfl rfl rfl (hz)
                · refine rr_if_eq (pc := 81) (tgt := 93) dX3_readPlayers_81 (by decide) (by unfold zR; omega) (fun h => by omega) (fun h => ?_)
                  refine rr_aload_n (pc := 84) dX3_readPlayers_84 rfl ?_
                  refine rr_aload_n (pc := 85) dX3_readPlayers_85 rfl ?_
                  refine rr_iload_n (pc := 86) dX3_readPlayers_86 rfl ?_
                  have e3 : a3 2 = q + 1 := by rw [sName_n (by omega) hr3 (by decide)]; exact e1
                  have e30 : a3 0 = ai 0 := by rw [sName_n (by omega) hr3 (by decide)]; exact aAddP_n (by decide) (by omega)
                  refine rr_inv0 (M' := MX3_readParts) (k := 112) (As := [_, _]) (pc := 87) dX3_readPlayers_87 lX3_97 kX3_readParts vX3_readParts zk_112 (by decide) rfl (by decide) (by decide) (Nat.le_of_ble_eq_true rfl) rfl (eX3_readParts r3 c3 (by omega) (by rw [e3]; omega) (hq3.bnd (fun W4 hz => ?_) (fun p4 a4 W4 hr4 r4 c4 hq4 => ?_)))
                  · refine rr_if_ne (pc := 90) (tgt := 95) dX3_readPlayers_90 (by decide) (by unfold zR; omega) (fun h => by omega) (fun h => ?_)
                    refine rr_iconst (n := 0) dX3_readPlayers_93 ?_
                    exact rr_reti (pc := 94) dX3_readPlayers_94 rfl rfl rfl rfl (hz)
                  · refine rr_if_ne (pc := 90) (tgt := 95) dX3_readPlayers_90 (by decide) (by unfold zR; omega) (fun h => ?_) (fun h => by omega)
                    refine rr_iinc (pc := 95) dX3_readPlayers_95 rfl (by decide) ?_
                    refine rr_goto (pc := 98) (tgt := 2) dX3_readPlayers_98 (by decide) ?_
                    have e4 : a4 2 = q + 1 := by rw [sParts_n (by omega) hr4 (by decide)]; exact e3
                    have e40 : a4 0 = ai 0 := by rw [sParts_n (by omega) hr4 (by decide)]; exact e30
                    refine rr_eqL ?_ (ih (q + 1) W4 p4 a4 _ (by omega) r4 c4 (by rw [e4]; omega) (by rw [e40]; exact h0) zOffq.rf rfl rfl hq4 (by omega))
                    rfl
              · refine rr_aload_n (pc := 52) dX3_readPlayers_52 rfl ?_
                refine rr_bipush (n := (-5)) dX3_readPlayers_53 ?_
                refine rr_aload_n (pc := 55) dX3_readPlayers_55 rfl ?_
                refine rr_getI (pc := 56) (ji := 2) dX3_readPlayers_56 fX3_50 zk_112 zr_112_2 rfl ?_
                rw [hRi.2.1]
                refine rr_inv0 (M' := MX3_fail) (k := 112) (As := [_, _]) (pc := 59) dX3_readPlayers_59 lX3_53 kX3_fail vX3_fail zk_112 (by decide) rfl (by decide) (by decide) (Nat.le_of_ble_eq_true rfl) rfl (eX3_fail (fun W1 o1 f5 f6 => ?_))
                · exact rr_reti (pc := 62) dX3_readPlayers_62 rfl rfl rfl rfl (hq.e (by rw [← hL, if_neg (by omega), if_neg (fun z => z (z_i10n h32)), if_pos (by omega)]) (hO.tr o1.q) (o1.cp hCi).by f5 f6)
            · refine rr_aload_n (pc := 35) dX3_readPlayers_35 rfl ?_
              refine rr_bipush (n := (-2)) dX3_readPlayers_36 ?_
              refine rr_aload_n (pc := 38) dX3_readPlayers_38 rfl ?_
              refine rr_getI (pc := 39) (ji := 2) dX3_readPlayers_39 fX3_50 zk_112 zr_112_2 rfl ?_
              rw [hRi.2.1]
              refine rr_inv0 (M' := MX3_fail) (k := 112) (As := [_, _]) (pc := 42) dX3_readPlayers_42 lX3_53 kX3_fail vX3_fail zk_112 (by decide) rfl (by decide) (by decide) (Nat.le_of_ble_eq_true rfl) rfl (eX3_fail (fun W1 o1 f5 f6 => ?_))
              · exact rr_reti (pc := 45) dX3_readPlayers_45 rfl rfl rfl rfl (hq.e (by rw [← hL, if_neg (by omega), if_pos (z_i10 (by omega))]) (hO.tr o1.q) (o1.cp hCi).by f5 f6)
          · refine rr_iconst (n := 1) dX3_readPlayers_24 ?_
            exact rr_reti (pc := 25) dX3_readPlayers_25 rfl rfl rfl rfl (hq.g (by rw [← hL, if_pos (by omega)]) hO hRi hE hCi)
  refine rr_iconst (n := 0) dX3_readPlayers_0 ?_
  refine rr_istore_n (pc := 1) dX3_readPlayers_1 (by decide) ?_
  exact loop _ 0 W p a W (by omega) hR hC h2 h0 zOffq.rf rfl rfl hq (Nat.lt_succ_self _)
