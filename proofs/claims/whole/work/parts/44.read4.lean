def zBind (r : zRs) (f : Nat → (Int → Int) → zRs) : zRs := match r with
  | .inl e => .inl e
  | .inr g => f g.1 g.2
theorem zRQ.bnd {W : zWd} {B : Nat → Int} {N : Nat} {r : zRs} {f : Nat → (Int → Int) → zRs} {Q Q' : Option Value → zWd → Prop} (h : zRQ W B N (zBind r f) Q) (h0 : ∀ W', Q (some (zI 0)) W' → Q' (some (zI 0)) W')
    (h1 : ∀ p a W', r = .inr (p, a) → zRd W' B N p → zCP W' 8 a → zRQ W' B N (f p a) Q → Q' (some (zI 1)) W') : zRQ W B N r Q' := by
  refine ⟨fun e he W' o b e1 e2 => h0 W' (h.1 e (by rw [he]; rfl) W' o b e1 e2), fun g hg W' o b e c => h1 g.1 g.2 W' hg b c (h.from (by rw [hg]; rfl) o e)⟩
theorem sRun_all {f : Int → Bool} {B : Nat → Int} {N : Nat} : ∀ n i j : Nat, i ≤ j → j < sRun f B N n i → f (B j) = true := by
  intro n
  induction n with
  | zero => intro i j h1 h2; exact absurd h2 (by show ¬ j < i; omega)
  | succ n ih =>
    intro i j h1 h2
    unfold sRun at h2
    by_cases q : i < N ∧ f (B i) = true
    · rw [if_pos q] at h2
      by_cases z : j = i
      · subst z; exact q.2
      · exact ih (i + 1) j (by omega) h2
    · rw [if_neg q] at h2; omega
def aLet (a : Int → Int) (pl : Int) (B : Nat → Int) (p : Nat) : Nat → (Int → Int)
  | 0 => a
  | n + 1 => iup (aLet a pl B p n) (58 + 17 * pl + (9 + n)) (B (p + n))
theorem aLet_n {a : Int → Int} {pl : Int} {B : Nat → Int} {p : Nat} {j : Int} (hpl : 0 ≤ pl) (hj : j < 58) : ∀ n : Nat, aLet a pl B p n j = a j := by
  intro n
  induction n with
  | zero => rfl
  | succ n ih => unfold aLet; rw [iup_n (by omega)]; exact ih
def sName (B : Nat → Int) (N p : Nat) (a : Int → Int) (pl : Int) : zRs :=
  if sWe B N p = p ∨ 8 < sWe B N p - p then .inl (-2, p)
  else if (List.range pl.toNat).any (fun o : Nat => sameN (aLet a pl B p (sWe B N p - p)) (o : Int) pl) = true then .inl (-4, p)
  else .inr (adv B N p, aLet a pl B p (sWe B N p - p))
theorem sPart_n {B : Nat → Int} {N p p' : Nat} {a a' : Int → Int} {q w : Int} {wd : List Int} (hq : 0 ≤ q) (hw : 0 ≤ w) (h : sPart B N p a q wd w = .inr (p', a')) {j : Int} (hj : j < 58) : a' j = a j := by
  unfold sPart at h
  by_cases z : sW B N p wd = true
  · rw [if_pos z] at h
    split at h
    · cases h
    · cases h; exact iup_n (by omega)
  · rw [if_neg z] at h; cases h; rfl
theorem sOwn_n {B : Nat → Int} {N : Nat} {q : Int} {j : Int} (hj : j < 18) : ∀ (n p p' : Nat) (a a' : Int → Int), sOwn B N q n p a = .inr (p', a') → a' j = a j := by
  intro n
  induction n with
  | zero => intro p p' a a' h; cases h; rfl
  | succ n ih =>
    intro p p' a a' h
    unfold sOwn at h
    by_cases z : sW B N p wOwns = true
    · rw [if_pos z] at h
      cases hn : sNr B N 1 (a 1) (adv B N p) with
      | inl e => rw [hn] at h; cases h
      | inr g =>
        rw [hn] at h
        have hv := sNr_in (p' := g.1) (v := g.2) hn
        by_cases y : aO a g.2 = -1
        · have h : sOwn B N q n g.1 (iup a (18 + 2 * (g.2 - 1) + (0 : Nat)) (q + 1)) = .inr (p', a') := by
            have h2 : (if aO a g.2 = -1 then sOwn B N q n g.1 (iup a (18 + 2 * (g.2 - 1) + (0 : Nat)) (q + 1)) else .inl (-4, adv B N p)) = (.inr (p', a') : zRs) := h
            rw [if_pos y] at h2; exact h2
          rw [ih _ _ _ _ h]; exact iup_n (by omega)
        · have h2 : (if aO a g.2 = -1 then sOwn B N q n g.1 (iup a (18 + 2 * (g.2 - 1) + (0 : Nat)) (q + 1)) else .inl (-4, adv B N p)) = (.inr (p', a') : zRs) := h
          rw [if_neg y] at h2; cases h2
    · rw [if_neg z] at h; cases h; rfl
def sParts (B : Nat → Int) (N p : Nat) (a : Int → Int) (q : Int) : zRs :=
  zBind (sPart B N p a q wReach 0) fun p a => zBind (sPart B N p a q wBalance 1) fun p a => zBind (sPart B N p a q wTarget 2) fun p a => zBind (sPart B N p a q wClaims 3) fun p a =>
    zBind (sOwn B N q 21 p a) fun p a => zBind (sPart B N p a q wMarker 5) fun p a => sSemi B N p a
theorem zOffq.cp0 {W W' : zWd} {B : Nat → Int} {N p : Nat} (_ : zOffq W W') (h : zRd W' B N p) : zRd W' B N p := h
theorem dX3_readOwned_0 : decode cX3_readOwned 0 = .ok (.iconst 0, 1) := by decide +kernel
theorem dX3_readOwned_1 : decode cX3_readOwned 1 = .ok (.istore_n 3, 1) := by decide +kernel
theorem dX3_readOwned_2 : decode cX3_readOwned 2 = .ok (.iload_n 3, 1) := by decide +kernel
theorem dX3_readOwned_3 : decode cX3_readOwned 3 = .ok (.bipush 20, 2) := by decide +kernel
theorem dX3_readOwned_5 : decode cX3_readOwned 5 = .ok (.if_icmp .gt 70, 3) := by decide +kernel
theorem dX3_readOwned_8 : decode cX3_readOwned 8 = .ok (.aload_n 0, 1) := by decide +kernel
theorem dX3_readOwned_9 : decode cX3_readOwned 9 = .ok (.ldc 138, 2) := by decide +kernel
theorem dX3_readOwned_11 : decode cX3_readOwned 11 = .ok (.invokevirtual 46, 3) := by decide +kernel
theorem dX3_readOwned_14 : decode cX3_readOwned 14 = .ok (.ifCond .eq 61, 3) := by decide +kernel
theorem dX3_readOwned_17 : decode cX3_readOwned 17 = .ok (.aload_n 0, 1) := by decide +kernel
theorem dX3_readOwned_18 : decode cX3_readOwned 18 = .ok (.getfield 50, 3) := by decide +kernel
theorem dX3_readOwned_21 : decode cX3_readOwned 21 = .ok (.istore 4, 2) := by decide +kernel
theorem dX3_readOwned_23 : decode cX3_readOwned 23 = .ok (.aload_n 0, 1) := by decide +kernel
theorem dX3_readOwned_24 : decode cX3_readOwned 24 = .ok (.iconst 1, 1) := by decide +kernel
theorem dX3_readOwned_25 : decode cX3_readOwned 25 = .ok (.aload_n 1, 1) := by decide +kernel
theorem dX3_readOwned_26 : decode cX3_readOwned 26 = .ok (.getfield 127, 3) := by decide +kernel
theorem dX3_readOwned_29 : decode cX3_readOwned 29 = .ok (.invokevirtual 80, 3) := by decide +kernel
theorem dX3_readOwned_32 : decode cX3_readOwned 32 = .ok (.ifCond .ne 5, 3) := by decide +kernel
theorem dX3_readOwned_35 : decode cX3_readOwned 35 = .ok (.iconst 0, 1) := by decide +kernel
theorem dX3_readOwned_36 : decode cX3_readOwned 36 = .ok (.ireturn, 1) := by decide +kernel
theorem dX3_readOwned_37 : decode cX3_readOwned 37 = .ok (.aload_n 1, 1) := by decide +kernel
theorem dX3_readOwned_38 : decode cX3_readOwned 38 = .ok (.getfield 140, 3) := by decide +kernel
theorem dX3_readOwned_41 : decode cX3_readOwned 41 = .ok (.aload_n 0, 1) := by decide +kernel
theorem dX3_readOwned_42 : decode cX3_readOwned 42 = .ok (.getfield 83, 3) := by decide +kernel
theorem dX3_readOwned_45 : decode cX3_readOwned 45 = .ok (.iaload, 1) := by decide +kernel
theorem dX3_readOwned_46 : decode cX3_readOwned 46 = .ok (.iconst (-1), 1) := by decide +kernel
theorem dX3_readOwned_47 : decode cX3_readOwned 47 = .ok (.if_icmp .eq 12, 3) := by decide +kernel
theorem dX3_readOwned_50 : decode cX3_readOwned 50 = .ok (.aload_n 0, 1) := by decide +kernel
theorem dX3_readOwned_51 : decode cX3_readOwned 51 = .ok (.bipush (-4), 2) := by decide +kernel
theorem dX3_readOwned_53 : decode cX3_readOwned 53 = .ok (.iload 4, 2) := by decide +kernel
theorem dX3_readOwned_55 : decode cX3_readOwned 55 = .ok (.invokevirtual 53, 3) := by decide +kernel
theorem dX3_readOwned_58 : decode cX3_readOwned 58 = .ok (.ireturn, 1) := by decide +kernel
theorem dX3_readOwned_59 : decode cX3_readOwned 59 = .ok (.aload_n 1, 1) := by decide +kernel
theorem dX3_readOwned_60 : decode cX3_readOwned 60 = .ok (.getfield 140, 3) := by decide +kernel
theorem dX3_readOwned_63 : decode cX3_readOwned 63 = .ok (.aload_n 0, 1) := by decide +kernel
theorem dX3_readOwned_64 : decode cX3_readOwned 64 = .ok (.getfield 83, 3) := by decide +kernel
theorem dX3_readOwned_67 : decode cX3_readOwned 67 = .ok (.iload_n 2, 1) := by decide +kernel
theorem dX3_readOwned_68 : decode cX3_readOwned 68 = .ok (.iastore, 1) := by decide +kernel
theorem dX3_readOwned_69 : decode cX3_readOwned 69 = .ok (.iinc 3 1, 3) := by decide +kernel
theorem dX3_readOwned_72 : decode cX3_readOwned 72 = .ok (.goto (-70), 3) := by decide +kernel
theorem dX3_readOwned_75 : decode cX3_readOwned 75 = .ok (.iconst 1, 1) := by decide +kernel
theorem dX3_readOwned_76 : decode cX3_readOwned 76 = .ok (.ireturn, 1) := by decide +kernel
theorem eX3_readOwned {W : zWd} {B : Nat → Int} {N p : Nat} {a : Int → Int} {pl : Int} {Q : Option Value → zWd → Prop} {X : zX} (hR : zRd W B N p) (hC : zCP W 8 a) (hp0 : 0 ≤ pl) (hp1 : pl < a 2) (hq : zRQ W B N (sOwn B N pl 21 p a) Q) : Ev MX3_readOwned 6 0 W [.ref 112, .ref 8, zI pl] Q X := by
  refine ev_of (ls := [.ref 112, .ref 8, zI pl, .null, .null]) (by decide) rfl (fun _ => rfl) (fun _ => Nat.le_of_ble_eq_true rfl) (Or.inl rfl) ?_
  obtain ⟨r9, hr9⟩ : ∃ r, r = sOwn B N pl 21 p a := ⟨_, rfl⟩
  rw [← hr9] at hq
  have loop : ∀ (n : Nat) (i : Nat) (Wi : zWd) (pi : Nat) (ai : Int → Int) (x4 : Value), i ≤ 21 → zOffq W Wi → Wi 112 6 = W 112 6 → zRd Wi B N pi → zCP Wi 8 ai → ai 2 = a 2 → sOwn B N pl (21 - i) pi ai = r9 → 21 - i < n → RR MX3_readOwned 6 0 Wi 2 [.ref 112, .ref 8, zI pl, zI (i : Int), x4] [] (zEnd MX3_readOwned Q X) X := by
    intro n
    induction n with
    | zero => intro i Wi pi ai x4 _ _ _ _ _ _ _ hm9; omega
    | succ n ih =>
      intro i Wi pi ai x4 hi hO hE hRi hCi h2 hL hm9
      refine rr_iload_n (pc := 2) dX3_readOwned_2 rfl ?_
      refine rr_bipush (n := (20)) dX3_readOwned_3 ?_
      refine rr_icmp_gt (pc := 5) (tgt := 75) dX3_readOwned_5 (by decide) (by unfold zR; omega) (by unfold zR; omega) (fun h5 => ?_) (fun h5 => ?_)
      · refine rr_iconst (n := 1) dX3_readOwned_75 ?_
        exact rr_reti (pc := 76) dX3_readOwned_76 rfl rfl rfl rfl (hq.g (by rw [← hL, show 21 - i = 0 by omega]; rfl) hO hRi hE hCi)
      · rw [show 21 - i = (21 - (i + 1)) + 1 by omega] at hL
        unfold sOwn at hL
        have hsq := hCi.2.2.sq
        have hp9 := hCi.2.2.2.1
        have hp26 := hCi.2.2.2.2.2.2.2.1
        refine rr_aload_n (pc := 8) dX3_readOwned_8 rfl ?_
        refine rr_ldcs (pc := 9) 9 dX3_readOwned_9 rfl ?_
        refine rr_inv0 (M' := MX3_takeWord) (k := 112) (As := [_]) (pc := 11) dX3_readOwned_11 lX3_46 kX3_takeWord vX3_takeWord zk_112 (by decide) rfl (by decide) (by decide) (Nat.le_of_ble_eq_true rfl) rfl (eX3_takeWord (i := 9) zS_9 zO_9 hRi (fun k0 => ?_) (fun k0 W0 o0 f0 r0 => ?_))
        · refine rr_if_eq (pc := 14) (tgt := 75) dX3_readOwned_14 (by decide) (by unfold zR; omega) (fun h => ?_) (fun h => by omega)
          refine rr_iconst (n := 1) dX3_readOwned_75 ?_
          exact rr_reti (pc := 76) dX3_readOwned_76 rfl rfl rfl rfl (hq.g (by rw [← hL, if_neg k0]) hO hRi hE hCi)
        · refine rr_if_eq (pc := 14) (tgt := 75) dX3_readOwned_14 (by decide) (by unfold zR; omega) (fun h => by omega) (fun h => ?_)
          refine rr_aload_n (pc := 17) dX3_readOwned_17 rfl ?_
          refine rr_getI (pc := 18) (ji := 2) dX3_readOwned_18 fX3_50 zk_112 zr_112_2 rfl ?_
          rw [r0.2.1]
          refine rr_istore (pc := 21) dX3_readOwned_21 (by decide) ?_
          refine rr_aload_n (pc := 23) dX3_readOwned_23 rfl ?_
          refine rr_iconst (n := 1) dX3_readOwned_24 ?_
          refine rr_aload_n (pc := 25) dX3_readOwned_25 rfl ?_
          have c0 := o0.cp hCi
          refine rr_getI (pc := 26) (ji := 1) dX3_readOwned_26 fX3_127 zCt_8.k zCt_8.i1 rfl ?_
          rw [c0.1.2.1]
          refine rr_inv0 (M' := MX3_readNumber) (k := 112) (As := [_, _]) (pc := 29) dX3_readOwned_29 lX3_80 kX3_readNumber vX3_readNumber zk_112 (by decide) rfl (by decide) (by decide) (Nat.le_of_ble_eq_true rfl) rfl (eX3_readNumber (by unfold zR; omega) (by unfold zR; omega) r0 (fun c hn2 W2 o2 f52 f62 => ?_) (fun p2 v2 hn2 W2 o2 f2 r2 e42 => ?_))
          · refine rr_if_ne (pc := 32) (tgt := 37) dX3_readOwned_32 (by decide) (by unfold zR; omega) (fun h => by omega) (fun h => ?_)
            refine rr_iconst (n := 0) dX3_readOwned_35 ?_
            exact rr_reti (pc := 36) dX3_readOwned_36 rfl rfl rfl rfl (hq.e (by rw [← hL, if_pos k0, hn2]) (hO.tr (o0.tr o2).q) ((o0.tr o2).cp hCi).by f52 f62)
          · refine rr_if_ne (pc := 32) (tgt := 37) dX3_readOwned_32 (by decide) (by unfold zR; omega) (fun h => ?_) (fun h => by omega)
            have hv := sNr_in hn2
            have c2 := (o0.tr o2).cp hCi
            rw [if_pos k0, hn2] at hL
            have hL : (if aO ai v2 = -1 then sOwn B N pl (21 - (i + 1)) p2 (iup ai (18 + 2 * (v2 - 1) + (0 : Nat)) (pl + 1)) else .inl (-4, adv B N pi)) = r9 := hL
            refine rr_aload_n (pc := 37) dX3_readOwned_37 rfl ?_
            refine rr_getR (pc := 38) dX3_readOwned_38 fX3_140 zCt_8.k zCt_8.r10 ?_
            refine rr_aload_n (pc := 41) dX3_readOwned_41 rfl ?_
            refine rr_getI (pc := 42) (ji := 4) dX3_readOwned_42 fX3_83 zk_112 zr_112_4 rfl ?_
            rw [e42]
            refine rr_iald (pc := 45) dX3_readOwned_45 zCt_8.a3 (by omega) (by omega) ?_
            rw [(c2.1.2.2.2.2.2.2.2.2.2.1 v2 hv.1 (by omega) hv.2).2.1]
            refine rr_iconst (n := (-1)) dX3_readOwned_46 ?_
            refine rr_icmp_eq (pc := 47) (tgt := 59) dX3_readOwned_47 (by decide) (by have := c2.2.2.2.2.2.2.2.2.2.2.2.2.2.2.1 v2 hv.1 (by omega); unfold zR; omega) (by unfold zR; omega) (fun h47 => ?_) (fun h47 => ?_)
            · refine rr_aload_n (pc := 59) dX3_readOwned_59 rfl ?_
              refine rr_getR (pc := 60) dX3_readOwned_60 fX3_140 zCt_8.k zCt_8.r10 ?_
              refine rr_aload_n (pc := 63) dX3_readOwned_63 rfl ?_
              refine rr_getI (pc := 64) (ji := 4) dX3_readOwned_64 fX3_83 zk_112 zr_112_4 rfl ?_
              rw [e42]
              refine rr_iload_n (pc := 67) dX3_readOwned_67 rfl ?_
              refine rr_iast (pc := 68) dX3_readOwned_68 zCt_8.a3 (by omega) (by omega) ?_
              have c3 := CP_S c2 hv.1 hv.2 hp0 (by omega)
              have o3 : zOff 8 W2 (zup W2 (8 + 3) v2 pl) := zOff.rf.up (by omega)
              generalize zup W2 (8 + 3) v2 pl = W3 at c3 o3 ⊢
              rw [if_pos h47] at hL
              refine rr_iinc (pc := 69) dX3_readOwned_69 rfl (by decide) ?_
              refine rr_goto (pc := 72) (tgt := 2) dX3_readOwned_72 (by decide) ?_
              exact ih (i + 1) W3 _ _ _ (by omega) (hO.tr ((o0.tr o2).q.tr o3.q)) (o3.rd6.trans ((f2 6 (by decide) (by decide) (by decide)).trans ((f0 6 (by decide) (by decide)).trans hE))) (o3.rd r2) c3 (by rw [iup_n (by omega)]; exact h2) hL (by omega)
            · refine rr_aload_n (pc := 50) dX3_readOwned_50 rfl ?_
              refine rr_bipush (n := (-4)) dX3_readOwned_51 ?_
              refine rr_iload (pc := 53) dX3_readOwned_53 rfl ?_
              refine rr_inv0 (M' := MX3_fail) (k := 112) (As := [_, _]) (pc := 55) dX3_readOwned_55 lX3_53 kX3_fail vX3_fail zk_112 (by decide) rfl (by decide) (by decide) (Nat.le_of_ble_eq_true rfl) rfl (eX3_fail (fun W3 o3 f53 f63 => ?_))
              · exact rr_reti (pc := 58) dX3_readOwned_58 rfl rfl rfl rfl (hq.e (by rw [← hL, if_neg h47]) (hO.tr ((o0.tr o2).tr o3).q) (((o0.tr o2).tr o3).cp hCi).by f53 f63)
  refine rr_iconst (n := 0) dX3_readOwned_0 ?_
  refine rr_istore_n (pc := 1) dX3_readOwned_1 (by decide) ?_
  exact loop _ 0 W p a _ (by omega) zOffq.rf rfl hR hC rfl hr9.symm (Nat.lt_succ_self _)
theorem dX3_readParts_0 : decode cX3_readParts 0 = .ok (.aload_n 0, 1) := by decide +kernel
theorem dX3_readParts_1 : decode cX3_readParts 1 = .ok (.aload_n 1, 1) := by decide +kernel
theorem dX3_readParts_2 : decode cX3_readParts 2 = .ok (.iload_n 2, 1) := by decide +kernel
theorem dX3_readParts_3 : decode cX3_readParts 3 = .ok (.ldc 106, 2) := by decide +kernel
theorem dX3_readParts_5 : decode cX3_readParts 5 = .ok (.iconst 0, 1) := by decide +kernel
theorem dX3_readParts_6 : decode cX3_readParts 6 = .ok (.invokevirtual 108, 3) := by decide +kernel
theorem dX3_readParts_9 : decode cX3_readParts 9 = .ok (.ifCond .eq 71, 3) := by decide +kernel
theorem dX3_readParts_12 : decode cX3_readParts 12 = .ok (.aload_n 0, 1) := by decide +kernel
theorem dX3_readParts_13 : decode cX3_readParts 13 = .ok (.aload_n 1, 1) := by decide +kernel
theorem dX3_readParts_14 : decode cX3_readParts 14 = .ok (.iload_n 2, 1) := by decide +kernel
theorem dX3_readParts_15 : decode cX3_readParts 15 = .ok (.ldc 112, 2) := by decide +kernel
theorem dX3_readParts_17 : decode cX3_readParts 17 = .ok (.iconst 1, 1) := by decide +kernel
theorem dX3_readParts_18 : decode cX3_readParts 18 = .ok (.invokevirtual 108, 3) := by decide +kernel
theorem dX3_readParts_21 : decode cX3_readParts 21 = .ok (.ifCond .eq 59, 3) := by decide +kernel
theorem dX3_readParts_24 : decode cX3_readParts 24 = .ok (.aload_n 0, 1) := by decide +kernel
theorem dX3_readParts_25 : decode cX3_readParts 25 = .ok (.aload_n 1, 1) := by decide +kernel
theorem dX3_readParts_26 : decode cX3_readParts 26 = .ok (.iload_n 2, 1) := by decide +kernel
theorem dX3_readParts_27 : decode cX3_readParts 27 = .ok (.ldc 114, 2) := by decide +kernel
theorem dX3_readParts_29 : decode cX3_readParts 29 = .ok (.iconst 2, 1) := by decide +kernel
theorem dX3_readParts_30 : decode cX3_readParts 30 = .ok (.invokevirtual 108, 3) := by decide +kernel
theorem dX3_readParts_33 : decode cX3_readParts 33 = .ok (.ifCond .eq 47, 3) := by decide +kernel
theorem dX3_readParts_36 : decode cX3_readParts 36 = .ok (.aload_n 0, 1) := by decide +kernel
theorem dX3_readParts_37 : decode cX3_readParts 37 = .ok (.aload_n 1, 1) := by decide +kernel
theorem dX3_readParts_38 : decode cX3_readParts 38 = .ok (.iload_n 2, 1) := by decide +kernel
theorem dX3_readParts_39 : decode cX3_readParts 39 = .ok (.ldc 116, 2) := by decide +kernel
theorem dX3_readParts_41 : decode cX3_readParts 41 = .ok (.iconst 3, 1) := by decide +kernel
theorem dX3_readParts_42 : decode cX3_readParts 42 = .ok (.invokevirtual 108, 3) := by decide +kernel
theorem dX3_readParts_45 : decode cX3_readParts 45 = .ok (.ifCond .eq 35, 3) := by decide +kernel
theorem dX3_readParts_48 : decode cX3_readParts 48 = .ok (.aload_n 0, 1) := by decide +kernel
theorem dX3_readParts_49 : decode cX3_readParts 49 = .ok (.aload_n 1, 1) := by decide +kernel
theorem dX3_readParts_50 : decode cX3_readParts 50 = .ok (.iload_n 2, 1) := by decide +kernel
theorem dX3_readParts_51 : decode cX3_readParts 51 = .ok (.invokevirtual 118, 3) := by decide +kernel
theorem dX3_readParts_54 : decode cX3_readParts 54 = .ok (.ifCond .eq 26, 3) := by decide +kernel
theorem dX3_readParts_57 : decode cX3_readParts 57 = .ok (.aload_n 0, 1) := by decide +kernel
theorem dX3_readParts_58 : decode cX3_readParts 58 = .ok (.aload_n 1, 1) := by decide +kernel
theorem dX3_readParts_59 : decode cX3_readParts 59 = .ok (.iload_n 2, 1) := by decide +kernel
theorem dX3_readParts_60 : decode cX3_readParts 60 = .ok (.ldc 121, 2) := by decide +kernel
theorem dX3_readParts_62 : decode cX3_readParts 62 = .ok (.iconst 5, 1) := by decide +kernel
theorem dX3_readParts_63 : decode cX3_readParts 63 = .ok (.invokevirtual 108, 3) := by decide +kernel
theorem dX3_readParts_66 : decode cX3_readParts 66 = .ok (.ifCond .eq 14, 3) := by decide +kernel
theorem dX3_readParts_69 : decode cX3_readParts 69 = .ok (.aload_n 0, 1) := by decide +kernel
theorem dX3_readParts_70 : decode cX3_readParts 70 = .ok (.invokevirtual 64, 3) := by decide +kernel
theorem dX3_readParts_73 : decode cX3_readParts 73 = .ok (.ifCond .eq 7, 3) := by decide +kernel
theorem dX3_readParts_76 : decode cX3_readParts 76 = .ok (.iconst 1, 1) := by decide +kernel
theorem dX3_readParts_77 : decode cX3_readParts 77 = .ok (.goto 4, 3) := by decide +kernel
theorem dX3_readParts_80 : decode cX3_readParts 80 = .ok (.iconst 0, 1) := by decide +kernel
theorem dX3_readParts_81 : decode cX3_readParts 81 = .ok (.ireturn, 1) := by decide +kernel
theorem eX3_readParts {W : zWd} {B : Nat → Int} {N p : Nat} {a : Int → Int} {pl : Int} {Q : Option Value → zWd → Prop} {X : zX} (hR : zRd W B N p) (hC : zCP W 8 a) (hp0 : 0 ≤ pl) (hp1 : pl < a 2) (hq : zRQ W B N (sParts B N p a pl) Q) : Ev MX3_readParts 7 0 W [.ref 112, .ref 8, zI pl] Q X := by
  refine ev_of (ls := [.ref 112, .ref 8, zI pl]) (by decide) rfl (fun _ => rfl) (fun _ => Nat.le_of_ble_eq_true rfl) (Or.inl rfl) ?_
  refine rr_aload_n (pc := 0) dX3_readParts_0 rfl ?_
  refine rr_aload_n (pc := 1) dX3_readParts_1 rfl ?_
  refine rr_iload_n (pc := 2) dX3_readParts_2 rfl ?_
  refine rr_ldcs (pc := 3) 5 dX3_readParts_3 rfl ?_
  refine rr_iconst (n := 0) dX3_readParts_5 ?_
  refine rr_inv0 (M' := MX3_readPart) (k := 112) (As := [_, _, _, _]) (pc := 6) dX3_readParts_6 lX3_108 kX3_readPart vX3_readPart zk_112 (by decide) rfl (by decide) (by decide) (Nat.le_of_ble_eq_true rfl) rfl (eX3_readPart (i := 5) hR hC zS_5 zO_5 hp0 (by omega) (by omega) ((show zRQ W B N (zBind (sPart B N p a pl wReach 0) _) Q from hq).bnd (fun W2 hz => ?_) (fun p1 a1 W1 hr1 r1 c1 hq1 => ?_)))
  · refine rr_if_eq (pc := 9) (tgt := 80) dX3_readParts_9 (by decide) (by unfold zR; omega) (fun h => ?_) (fun h => by omega)
    refine rr_iconst (n := 0) dX3_readParts_80 ?_
    exact rr_reti (pc := 81) dX3_readParts_81 rfl rfl rfl rfl (hz)
  · refine rr_if_eq (pc := 9) (tgt := 80) dX3_readParts_9 (by decide) (by unfold zR; omega) (fun h => by omega) (fun h => ?_)
    have e1 : a1 2 = a 2 := sPart_n hp0 (by decide) hr1 (by decide)
    refine rr_aload_n (pc := 12) dX3_readParts_12 rfl ?_
    refine rr_aload_n (pc := 13) dX3_readParts_13 rfl ?_
    refine rr_iload_n (pc := 14) dX3_readParts_14 rfl ?_
    refine rr_ldcs (pc := 15) 6 dX3_readParts_15 rfl ?_
    refine rr_iconst (n := 1) dX3_readParts_17 ?_
    refine rr_inv0 (M' := MX3_readPart) (k := 112) (As := [_, _, _, _]) (pc := 18) dX3_readParts_18 lX3_108 kX3_readPart vX3_readPart zk_112 (by decide) rfl (by decide) (by decide) (Nat.le_of_ble_eq_true rfl) rfl (eX3_readPart (i := 6) r1 c1 zS_6 zO_6 hp0 (by omega) (by omega) (hq1.bnd (fun W2 hz => ?_) (fun p2 a2 W2 hr2 r2 c2 hq2 => ?_)))
    · refine rr_if_eq (pc := 21) (tgt := 80) dX3_readParts_21 (by decide) (by unfold zR; omega) (fun h => ?_) (fun h => by omega)
      refine rr_iconst (n := 0) dX3_readParts_80 ?_
      exact rr_reti (pc := 81) dX3_readParts_81 rfl rfl rfl rfl (hz)
    · refine rr_if_eq (pc := 21) (tgt := 80) dX3_readParts_21 (by decide) (by unfold zR; omega) (fun h => by omega) (fun h => ?_)
      have e2 : a2 2 = a1 2 := sPart_n hp0 (by decide) hr2 (by decide)
      refine rr_aload_n (pc := 24) dX3_readParts_24 rfl ?_
      refine rr_aload_n (pc := 25) dX3_readParts_25 rfl ?_
      refine rr_iload_n (pc := 26) dX3_readParts_26 rfl ?_
      refine rr_ldcs (pc := 27) 7 dX3_readParts_27 rfl ?_
      refine rr_iconst (n := 2) dX3_readParts_29 ?_
      refine rr_inv0 (M' := MX3_readPart) (k := 112) (As := [_, _, _, _]) (pc := 30) dX3_readParts_30 lX3_108 kX3_readPart vX3_readPart zk_112 (by decide) rfl (by decide) (by decide) (Nat.le_of_ble_eq_true rfl) rfl (eX3_readPart (i := 7) r2 c2 zS_7 zO_7 hp0 (by omega) (by omega) (hq2.bnd (fun W2 hz => ?_) (fun p3 a3 W3 hr3 r3 c3 hq3 => ?_)))
      · refine rr_if_eq (pc := 33) (tgt := 80) dX3_readParts_33 (by decide) (by unfold zR; omega) (fun h => ?_) (fun h => by omega)
        refine rr_iconst (n := 0) dX3_readParts_80 ?_
        exact rr_reti (pc := 81) dX3_readParts_81 rfl rfl rfl rfl (hz)
      · refine rr_if_eq (pc := 33) (tgt := 80) dX3_readParts_33 (by decide) (by unfold zR; omega) (fun h => by omega) (fun h => ?_)
        have e3 : a3 2 = a2 2 := sPart_n hp0 (by decide) hr3 (by decide)
        refine rr_aload_n (pc := 36) dX3_readParts_36 rfl ?_
        refine rr_aload_n (pc := 37) dX3_readParts_37 rfl ?_
        refine rr_iload_n (pc := 38) dX3_readParts_38 rfl ?_
        refine rr_ldcs (pc := 39) 8 dX3_readParts_39 rfl ?_
        refine rr_iconst (n := 3) dX3_readParts_41 ?_
        refine rr_inv0 (M' := MX3_readPart) (k := 112) (As := [_, _, _, _]) (pc := 42) dX3_readParts_42 lX3_108 kX3_readPart vX3_readPart zk_112 (by decide) rfl (by decide) (by decide) (Nat.le_of_ble_eq_true rfl) rfl (eX3_readPart (i := 8) r3 c3 zS_8 zO_8 hp0 (by omega) (by omega) (hq3.bnd (fun W2 hz => ?_) (fun p4 a4 W4 hr4 r4 c4 hq4 => ?_)))
        · refine rr_if_eq (pc := 45) (tgt := 80) dX3_readParts_45 (by decide) (by unfold zR; omega) (fun h => ?_) (fun h => by omega)
          refine rr_iconst (n := 0) dX3_readParts_80 ?_
          exact rr_reti (pc := 81) dX3_readParts_81 rfl rfl rfl rfl (hz)
        · refine rr_if_eq (pc := 45) (tgt := 80) dX3_readParts_45 (by decide) (by unfold zR; omega) (fun h => by omega) (fun h => ?_)
          have e4 : a4 2 = a3 2 := sPart_n hp0 (by decide) hr4 (by decide)
          refine rr_aload_n (pc := 48) dX3_readParts_48 rfl ?_
          refine rr_aload_n (pc := 49) dX3_readParts_49 rfl ?_
          refine rr_iload_n (pc := 50) dX3_readParts_50 rfl ?_
          refine rr_inv0 (M' := MX3_readOwned) (k := 112) (As := [_, _]) (pc := 51) dX3_readParts_51 lX3_118 kX3_readOwned vX3_readOwned zk_112 (by decide) rfl (by decide) (by decide) (Nat.le_of_ble_eq_true rfl) rfl (eX3_readOwned r4 c4 hp0 (by omega) (hq4.bnd (fun W2 hz => ?_) (fun p5 a5 W5 hr5 r5 c5 hq5 => ?_)))
          · refine rr_if_eq (pc := 54) (tgt := 80) dX3_readParts_54 (by decide) (by unfold zR; omega) (fun h => ?_) (fun h => by omega)
            refine rr_iconst (n := 0) dX3_readParts_80 ?_
            exact rr_reti (pc := 81) dX3_readParts_81 rfl rfl rfl rfl (hz)
          · refine rr_if_eq (pc := 54) (tgt := 80) dX3_readParts_54 (by decide) (by unfold zR; omega) (fun h => by omega) (fun h => ?_)
            have e5 : a5 2 = a4 2 := sOwn_n (by decide) _ _ _ _ _ hr5
            refine rr_aload_n (pc := 57) dX3_readParts_57 rfl ?_
            refine rr_aload_n (pc := 58) dX3_readParts_58 rfl ?_
            refine rr_iload_n (pc := 59) dX3_readParts_59 rfl ?_
            refine rr_ldcs (pc := 60) 10 dX3_readParts_60 rfl ?_
            refine rr_iconst (n := 5) dX3_readParts_62 ?_
            refine rr_inv0 (M' := MX3_readPart) (k := 112) (As := [_, _, _, _]) (pc := 63) dX3_readParts_63 lX3_108 kX3_readPart vX3_readPart zk_112 (by decide) rfl (by decide) (by decide) (Nat.le_of_ble_eq_true rfl) rfl (eX3_readPart (i := 10) r5 c5 zS_10 zO_10 hp0 (by omega) (by omega) (hq5.bnd (fun W2 hz => ?_) (fun p6 a6 W6 hr6 r6 c6 hq6 => ?_)))
            · refine rr_if_eq (pc := 66) (tgt := 80) dX3_readParts_66 (by decide) (by unfold zR; omega) (fun h => ?_) (fun h => by omega)
              refine rr_iconst (n := 0) dX3_readParts_80 ?_
              exact rr_reti (pc := 81) dX3_readParts_81 rfl rfl rfl rfl (hz)
            · refine rr_if_eq (pc := 66) (tgt := 80) dX3_readParts_66 (by decide) (by unfold zR; omega) (fun h => by omega) (fun h => ?_)
              refine rr_aload_n (pc := 69) dX3_readParts_69 rfl ?_
              refine rr_inv0 (M' := MX3_readSemicolon) (k := 112) (As := []) (pc := 70) dX3_readParts_70 lX3_64 kX3_readSemicolon vX3_readSemicolon zk_112 (by decide) rfl (by decide) (by decide) (Nat.le_of_ble_eq_true rfl) rfl (eX3_readSemicolon r6 c6 (hq6.of (fun W7 hz => ?_) (fun W7 hz => ?_)))
              · refine rr_if_eq (pc := 73) (tgt := 80) dX3_readParts_73 (by decide) (by unfold zR; omega) (fun h => ?_) (fun h => by omega)
                refine rr_iconst (n := 0) dX3_readParts_80 ?_
                exact rr_reti (pc := 81) dX3_readParts_81 rfl rfl rfl rfl (hz)
              · refine rr_if_eq (pc := 73) (tgt := 80) dX3_readParts_73 (by decide) (by unfold zR; omega) (fun h => by omega) (fun h => ?_)
                refine rr_iconst (n := 1) dX3_readParts_76 ?_
                refine rr_goto (pc := 77) (tgt := 81) dX3_readParts_77 (by decide) ?_
                exact rr_reti (pc := 81) dX3_readParts_81 rfl rfl rfl rfl (hz)
theorem dX3_readName_0 : decode cX3_readName 0 = .ok (.aload_n 0, 1) := by decide +kernel
theorem dX3_readName_1 : decode cX3_readName 1 = .ok (.getfield 71, 3) := by decide +kernel
theorem dX3_readName_4 : decode cX3_readName 4 = .ok (.aload_n 0, 1) := by decide +kernel
theorem dX3_readName_5 : decode cX3_readName 5 = .ok (.getfield 50, 3) := by decide +kernel
theorem dX3_readName_8 : decode cX3_readName 8 = .ok (.if_icmp .eq 17, 3) := by decide +kernel
theorem dX3_readName_11 : decode cX3_readName 11 = .ok (.aload_n 0, 1) := by decide +kernel
theorem dX3_readName_12 : decode cX3_readName 12 = .ok (.getfield 71, 3) := by decide +kernel
theorem dX3_readName_15 : decode cX3_readName 15 = .ok (.aload_n 0, 1) := by decide +kernel
theorem dX3_readName_16 : decode cX3_readName 16 = .ok (.getfield 50, 3) := by decide +kernel
theorem dX3_readName_19 : decode cX3_readName 19 = .ok (.isub, 1) := by decide +kernel
theorem dX3_readName_20 : decode cX3_readName 20 = .ok (.bipush 8, 2) := by decide +kernel
theorem dX3_readName_22 : decode cX3_readName 22 = .ok (.if_icmp .le 14, 3) := by decide +kernel
theorem dX3_readName_25 : decode cX3_readName 25 = .ok (.aload_n 0, 1) := by decide +kernel
theorem dX3_readName_26 : decode cX3_readName 26 = .ok (.bipush (-2), 2) := by decide +kernel
theorem dX3_readName_28 : decode cX3_readName 28 = .ok (.aload_n 0, 1) := by decide +kernel
theorem dX3_readName_29 : decode cX3_readName 29 = .ok (.getfield 50, 3) := by decide +kernel
theorem dX3_readName_32 : decode cX3_readName 32 = .ok (.invokevirtual 53, 3) := by decide +kernel
theorem dX3_readName_35 : decode cX3_readName 35 = .ok (.ireturn, 1) := by decide +kernel
theorem dX3_readName_36 : decode cX3_readName 36 = .ok (.aload_n 0, 1) := by decide +kernel
theorem dX3_readName_37 : decode cX3_readName 37 = .ok (.getfield 50, 3) := by decide +kernel
theorem dX3_readName_40 : decode cX3_readName 40 = .ok (.istore_n 3, 1) := by decide +kernel
theorem dX3_readName_41 : decode cX3_readName 41 = .ok (.iload_n 3, 1) := by decide +kernel
theorem dX3_readName_42 : decode cX3_readName 42 = .ok (.aload_n 0, 1) := by decide +kernel
theorem dX3_readName_43 : decode cX3_readName 43 = .ok (.getfield 71, 3) := by decide +kernel
theorem dX3_readName_46 : decode cX3_readName 46 = .ok (.if_icmp .ge 19, 3) := by decide +kernel
theorem dX3_readName_49 : decode cX3_readName 49 = .ok (.aload_n 1, 1) := by decide +kernel
theorem dX3_readName_50 : decode cX3_readName 50 = .ok (.aload_n 0, 1) := by decide +kernel
theorem dX3_readName_51 : decode cX3_readName 51 = .ok (.getfield 9, 3) := by decide +kernel
theorem dX3_readName_54 : decode cX3_readName 54 = .ok (.iload_n 3, 1) := by decide +kernel
theorem dX3_readName_55 : decode cX3_readName 55 = .ok (.baload, 1) := by decide +kernel
theorem dX3_readName_56 : decode cX3_readName 56 = .ok (.invokevirtual 100, 3) := by decide +kernel
theorem dX3_readName_59 : decode cX3_readName 59 = .ok (.iinc 3 1, 3) := by decide +kernel
theorem dX3_readName_62 : decode cX3_readName 62 = .ok (.goto (-21), 3) := by decide +kernel
theorem dX3_readName_65 : decode cX3_readName 65 = .ok (.iconst 0, 1) := by decide +kernel
theorem dX3_readName_66 : decode cX3_readName 66 = .ok (.istore_n 3, 1) := by decide +kernel
theorem dX3_readName_67 : decode cX3_readName 67 = .ok (.iload_n 3, 1) := by decide +kernel
theorem dX3_readName_68 : decode cX3_readName 68 = .ok (.iload_n 2, 1) := by decide +kernel
theorem dX3_readName_69 : decode cX3_readName 69 = .ok (.if_icmp .ge 29, 3) := by decide +kernel
theorem dX3_readName_72 : decode cX3_readName 72 = .ok (.aload_n 1, 1) := by decide +kernel
theorem dX3_readName_73 : decode cX3_readName 73 = .ok (.iload_n 3, 1) := by decide +kernel
theorem dX3_readName_74 : decode cX3_readName 74 = .ok (.iload_n 2, 1) := by decide +kernel
theorem dX3_readName_75 : decode cX3_readName 75 = .ok (.invokevirtual 103, 3) := by decide +kernel
theorem dX3_readName_78 : decode cX3_readName 78 = .ok (.ifCond .eq 14, 3) := by decide +kernel
theorem dX3_readName_81 : decode cX3_readName 81 = .ok (.aload_n 0, 1) := by decide +kernel
theorem dX3_readName_82 : decode cX3_readName 82 = .ok (.bipush (-4), 2) := by decide +kernel
theorem dX3_readName_84 : decode cX3_readName 84 = .ok (.aload_n 0, 1) := by decide +kernel
theorem dX3_readName_85 : decode cX3_readName 85 = .ok (.getfield 50, 3) := by decide +kernel
theorem dX3_readName_88 : decode cX3_readName 88 = .ok (.invokevirtual 53, 3) := by decide +kernel
theorem dX3_readName_91 : decode cX3_readName 91 = .ok (.ireturn, 1) := by decide +kernel
theorem dX3_readName_92 : decode cX3_readName 92 = .ok (.iinc 3 1, 3) := by decide +kernel
theorem dX3_readName_95 : decode cX3_readName 95 = .ok (.goto (-28), 3) := by decide +kernel
theorem dX3_readName_98 : decode cX3_readName 98 = .ok (.aload_n 0, 1) := by decide +kernel
theorem dX3_readName_99 : decode cX3_readName 99 = .ok (.aload_n 0, 1) := by decide +kernel
theorem dX3_readName_100 : decode cX3_readName 100 = .ok (.getfield 71, 3) := by decide +kernel
theorem dX3_readName_103 : decode cX3_readName 103 = .ok (.invokevirtual 27, 3) := by decide +kernel
theorem dX3_readName_106 : decode cX3_readName 106 = .ok (.iconst 1, 1) := by decide +kernel
theorem dX3_readName_107 : decode cX3_readName 107 = .ok (.ireturn, 1) := by decide +kernel
theorem eX3_readName {W : zWd} {B : Nat → Int} {N p : Nat} {a : Int → Int} {pl : Int} {Q : Option Value → zWd → Prop} {X : zX} (hR : zRd W B N p) (hC : zCP W 8 a) (hpl : pl = a 2 - 1) (hp0 : 0 ≤ pl) (hn0 : aP a pl 9 = 0) (hq : zRQ W B N (sName B N p a pl) Q) : Ev MX3_readName 6 0 W [.ref 112, .ref 8, zI pl] Q X := by
  refine ev_of (ls := [.ref 112, .ref 8, zI pl, .null]) (by decide) rfl (fun _ => rfl) (fun _ => Nat.le_of_ble_eq_true rfl) (Or.inl rfl) ?_
  have h600 := hR.1.2.1
  have hpN := hR.2.2.2
  have hwe : p ≤ sWe B N p ∧ sWe B N p ≤ N := sRun_rng _ _ hpN
  have hp26 := hC.2.2.2.2.2.2.2.1
  have hl0 : W (8 + 7) pl = 0 := by
    obtain ⟨n1, n2, n3, n4⟩ := (hC.1.2.2.2.2.2.2.2.2.2.2.1 pl hp0 (by omega)).2.2.2.2.2.2.2.2.2.1
    by_cases z : W (8 + 7) pl = 0
    · exact z
    · have := (n3 0 (by omega) (by omega)).1
      rw [show (9 : Int) + 0 = 9 by omega] at this; omega
  refine rr_aload_n (pc := 0) dX3_readName_0 rfl ?_
  refine rr_getI (pc := 1) (ji := 3) dX3_readName_1 fX3_71 zk_112 zr_112_3 rfl ?_
  rw [hR.2.2.1]
  refine rr_aload_n (pc := 4) dX3_readName_4 rfl ?_
  refine rr_getI (pc := 5) (ji := 2) dX3_readName_5 fX3_50 zk_112 zr_112_2 rfl ?_
  rw [hR.2.1]
  refine rr_icmp_eq (pc := 8) (tgt := 25) dX3_readName_8 (by decide) (by unfold zR; omega) (by unfold zR; omega) (fun h8 => ?_) (fun h8 => ?_)
  · refine rr_aload_n (pc := 25) dX3_readName_25 rfl ?_
    refine rr_bipush (n := (-2)) dX3_readName_26 ?_
    refine rr_aload_n (pc := 28) dX3_readName_28 rfl ?_
    refine rr_getI (pc := 29) (ji := 2) dX3_readName_29 fX3_50 zk_112 zr_112_2 rfl ?_
    rw [hR.2.1]
    refine rr_inv0 (M' := MX3_fail) (k := 112) (As := [_, _]) (pc := 32) dX3_readName_32 lX3_53 kX3_fail vX3_fail zk_112 (by decide) rfl (by decide) (by decide) (Nat.le_of_ble_eq_true rfl) rfl (eX3_fail (fun W1 o1 f5 f6 => ?_))
    · exact rr_reti (pc := 35) dX3_readName_35 rfl rfl rfl rfl (hq.e (by unfold sName; rw [if_pos (by omega)]) o1.q (o1.cp hC).by f5 f6)
  · refine rr_aload_n (pc := 11) dX3_readName_11 rfl ?_
    refine rr_getI (pc := 12) (ji := 3) dX3_readName_12 fX3_71 zk_112 zr_112_3 rfl ?_
    rw [hR.2.2.1]
    refine rr_aload_n (pc := 15) dX3_readName_15 rfl ?_
    refine rr_getI (pc := 16) (ji := 2) dX3_readName_16 fX3_50 zk_112 zr_112_2 rfl ?_
    rw [hR.2.1]
    refine rr_isub (pc := 19) dX3_readName_19 ?_
    refine rr_bipush (n := (8)) dX3_readName_20 ?_
    refine rr_icmp_le (pc := 22) (tgt := 36) dX3_readName_22 (by decide) (by unfold zR; omega) (by unfold zR; omega) (fun h22 => ?_) (fun h22 => ?_)
    · have loop1 : ∀ (n : Nat) (k : Nat) (Wi : zWd) (ai : Int → Int), k ≤ sWe B N p - p → zOffq W Wi → zCP Wi 8 ai → Wi (8 + 7) pl = k → ai = aLet a pl B p k → zRd Wi B N p → Wi 112 6 = W 112 6 → sWe B N p - p - k < n → RR MX3_readName 6 0 Wi 41 [.ref 112, .ref 8, zI pl, zI ((p : Int) + (k : Int))] [] (zEnd MX3_readName Q X) X := by
        intro n
        induction n with
        | zero => intro k Wi ai _ _ _ _ _ _ _ hm9; omega
        | succ n ih =>
          intro k Wi ai hk9 hO hCi hl ha hRi hE hm9
          have e2 : ai 2 = a 2 := by rw [ha]; exact aLet_n hp0 (by decide) k
          refine rr_iload_n (pc := 41) dX3_readName_41 rfl ?_
          refine rr_aload_n (pc := 42) dX3_readName_42 rfl ?_
          refine rr_getI (pc := 43) (ji := 3) dX3_readName_43 fX3_71 zk_112 zr_112_3 rfl ?_
          rw [hRi.2.2.1]
          refine rr_icmp_ge (pc := 46) (tgt := 65) dX3_readName_46 (by decide) (by unfold zR; omega) (by unfold zR; omega) (fun h46 => ?_) (fun h46 => ?_)
          · refine rr_iconst (n := 0) dX3_readName_65 ?_
            refine rr_istore_n (pc := 66) dX3_readName_66 (by decide) ?_
            have hk : k = sWe B N p - p := by omega
            subst hk
            subst ha
            have loop2 : ∀ (n : Nat) (i : Int), 0 ≤ i → i ≤ pl → (∀ j : Int, 0 ≤ j → j < i → ¬ sameN (aLet a pl B p (sWe B N p - p)) j pl = true) → (pl - i).toNat < n → RR MX3_readName 6 0 Wi 67 [.ref 112, .ref 8, zI pl, zI i] [] (zEnd MX3_readName Q X) X := by
              intro n
              induction n with
              | zero => intro i _ _ _ hm9; omega
              | succ n ih =>
                intro i h1 h2 hS hm9
                refine rr_iload_n (pc := 67) dX3_readName_67 rfl ?_
                refine rr_iload_n (pc := 68) dX3_readName_68 rfl ?_
                refine rr_icmp_ge (pc := 69) (tgt := 98) dX3_readName_69 (by decide) (by unfold zR; omega) (by unfold zR; omega) (fun h69 => ?_) (fun h69 => ?_)
                · refine rr_aload_n (pc := 98) dX3_readName_98 rfl ?_
                  refine rr_aload_n (pc := 99) dX3_readName_99 rfl ?_
                  refine rr_getI (pc := 100) (ji := 3) dX3_readName_100 fX3_71 zk_112 zr_112_3 rfl ?_
                  rw [hRi.2.2.1]
                  refine rr_inv0 (M' := MX3_moveTo) (k := 112) (As := [_]) (pc := 103) dX3_readName_103 lX3_27 kX3_moveTo vX3_moveTo zk_112 (by decide) rfl (by decide) (by decide) (Nat.le_of_ble_eq_true rfl) rfl (eX3_moveTo hRi.1 hwe.2 (fun W1 o1 f1 t1 k1 => ?_))
                  refine rr_iconst (n := 1) dX3_readName_106 ?_
                  have hno : ¬ (List.range pl.toNat).any (fun o : Nat => sameN (aLet a pl B p (sWe B N p - p)) (o : Int) pl) = true := fun z => by
                    obtain ⟨o, ho, hs⟩ := List.any_eq_true.mp z
                    exact hS o (by omega) (by have := List.mem_range.mp ho; omega) hs
                  exact rr_reti (pc := 107) dX3_readName_107 rfl rfl rfl rfl (hq.g (by unfold sName; rw [if_neg (by omega), if_neg hno]; rfl) (hO.tr o1.q) ⟨t1, k1⟩ ((f1 6 (by decide) (by decide)).trans hE) (o1.cp hCi))
                · refine rr_aload_n (pc := 72) dX3_readName_72 rfl ?_
                  refine rr_iload_n (pc := 73) dX3_readName_73 rfl ?_
                  refine rr_iload_n (pc := 74) dX3_readName_74 rfl ?_
                  refine rr_invN (M' := MX0_hasSameName) (k := 8) (As := [_, _]) (pc := 75) dX3_readName_75 lX3_103 kX0_hasSameName vX0_hasSameName zCt_8.k (by decide) rfl (by decide) (by decide) (Nat.le_of_ble_eq_true rfl) rfl (eX0_hasSameName zCt_8 hCi h1 (by rw [e2]; omega) hp0 (by rw [e2]; omega) ?_)
                  refine rr_if_eq (pc := 78) (tgt := 92) dX3_readName_78 (by decide) (by split <;> (unfold zR; omega)) (fun h78 => ?_) (fun h78 => ?_)
                  · refine rr_iinc (pc := 92) dX3_readName_92 rfl (by decide) ?_
                    refine rr_goto (pc := 95) (tgt := 67) dX3_readName_95 (by decide) ?_
                    refine ih (i + 1) (by omega) (by omega) (fun j g1 g2 => ?_) (by omega)
                    by_cases z : j = i
                    · subst z; exact z_i10 h78
                    · exact hS j g1 (by omega)
                  · refine rr_aload_n (pc := 81) dX3_readName_81 rfl ?_
                    refine rr_bipush (n := (-4)) dX3_readName_82 ?_
                    refine rr_aload_n (pc := 84) dX3_readName_84 rfl ?_
                    refine rr_getI (pc := 85) (ji := 2) dX3_readName_85 fX3_50 zk_112 zr_112_2 rfl ?_
                    rw [hRi.2.1]
                    refine rr_inv0 (M' := MX3_fail) (k := 112) (As := [_, _]) (pc := 88) dX3_readName_88 lX3_53 kX3_fail vX3_fail zk_112 (by decide) rfl (by decide) (by decide) (Nat.le_of_ble_eq_true rfl) rfl (eX3_fail (fun W1 o1 f5 f6 => ?_))
                    · exact rr_reti (pc := 91) dX3_readName_91 rfl rfl rfl rfl (hq.e (by unfold sName; rw [if_neg (by omega), if_pos (List.any_eq_true.mpr ⟨i.toNat, List.mem_range.mpr (by omega), by rw [show ((i.toNat : Nat) : Int) = i by omega]; exact z_i10n h78⟩)]) (hO.tr o1.q) (o1.cp hCi).by f5 f6)
            exact loop2 _ 0 (by omega) (by omega) (fun j g1 g2 => by omega) (Nat.lt_succ_self _)
          · refine rr_aload_n (pc := 49) dX3_readName_49 rfl ?_
            refine rr_aload_n (pc := 50) dX3_readName_50 rfl ?_
            refine rr_getR (pc := 51) dX3_readName_51 fX3_9 zk_112 zr_112_0 ?_
            refine rr_iload_n (pc := 54) dX3_readName_54 rfl ?_
            have hb := hRi.1.2.2 (p + k) (by omega)
            have hlt := of_decide_eq_true (sRun_all (f := fLe) (B := B) (N := N) (N - p) p (p + k) (by omega) (show p + k < sWe B N p by omega))
            have hbe : sB (B (p + k)) = B (p + k) := by unfold sB; rw [if_pos (by omega)]
            refine rr_bald (pc := 55) dX3_readName_55 zk_113 (by omega) (by omega) ?_
            rw [show (p : Int) + (k : Int) = ((p + k : Nat) : Int) by omega, hb.2.2, hbe]
            refine rr_invN (M' := MX0_addLetter) (k := 8) (As := [_]) (pc := 56) dX3_readName_56 lX3_100 kX0_addLetter vX0_addLetter zCt_8.k (by decide) rfl (by decide) (by decide) (Nat.le_of_ble_eq_true rfl) rfl (eX0_addLetter (len := (k : Int)) zCt_8 hCi (by rw [e2]; omega) (by rw [e2, ← hpl]; exact hl) (by omega) (by omega) (by omega) (fun W1 o1 c1 l1 => ?_))
            rw [e2, ← hpl] at c1 l1
            have c1 : zCP W1 8 (aLet a pl B p (k + 1)) := by
              show zCP W1 8 (iup (aLet a pl B p k) _ _)
              rw [← ha]; exact c1
            refine rr_iinc (pc := 59) dX3_readName_59 rfl (by decide) ?_
            refine rr_goto (pc := 62) (tgt := 41) dX3_readName_62 (by decide) ?_
            refine rr_eqL ?_ (ih (k + 1) W1 _ (by omega) (hO.tr o1.q) c1 (by rw [l1]; omega) rfl (o1.rd hRi) (o1.rd6.trans hE) (by omega))
            rw [show (p : Int) + ((k + 1 : Nat) : Int) = (p : Int) + (k : Int) + 1 by omega]
            rfl
      refine rr_aload_n (pc := 36) dX3_readName_36 rfl ?_
      refine rr_getI (pc := 37) (ji := 2) dX3_readName_37 fX3_50 zk_112 zr_112_2 rfl ?_
      rw [hR.2.1]
      refine rr_istore_n (pc := 40) dX3_readName_40 (by decide) ?_
      exact loop1 _ 0 W a (by omega) zOffq.rf hC hl0 rfl hR rfl (Nat.lt_succ_self _)
    · refine rr_aload_n (pc := 25) dX3_readName_25 rfl ?_
      refine rr_bipush (n := (-2)) dX3_readName_26 ?_
      refine rr_aload_n (pc := 28) dX3_readName_28 rfl ?_
      refine rr_getI (pc := 29) (ji := 2) dX3_readName_29 fX3_50 zk_112 zr_112_2 rfl ?_
      rw [hR.2.1]
      refine rr_inv0 (M' := MX3_fail) (k := 112) (As := [_, _]) (pc := 32) dX3_readName_32 lX3_53 kX3_fail vX3_fail zk_112 (by decide) rfl (by decide) (by decide) (Nat.le_of_ble_eq_true rfl) rfl (eX3_fail (fun W1 o1 f5 f6 => ?_))
      · exact rr_reti (pc := 35) dX3_readName_35 rfl rfl rfl rfl (hq.e (by unfold sName; rw [if_pos (by omega)]) o1.q (o1.cp hC).by f5 f6)
