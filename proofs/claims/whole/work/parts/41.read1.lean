theorem dX3_moveTo_0 : decode cX3_moveTo 0 = .ok (.aload_n 0, 1) := by decide +kernel
theorem dX3_moveTo_1 : decode cX3_moveTo 1 = .ok (.iload_n 1, 1) := by decide +kernel
theorem dX3_moveTo_2 : decode cX3_moveTo 2 = .ok (.putfield 50, 3) := by decide +kernel
theorem dX3_moveTo_5 : decode cX3_moveTo 5 = .ok (.aload_n 0, 1) := by decide +kernel
theorem dX3_moveTo_6 : decode cX3_moveTo 6 = .ok (.getfield 50, 3) := by decide +kernel
theorem dX3_moveTo_9 : decode cX3_moveTo 9 = .ok (.aload_n 0, 1) := by decide +kernel
theorem dX3_moveTo_10 : decode cX3_moveTo 10 = .ok (.getfield 19, 3) := by decide +kernel
theorem dX3_moveTo_13 : decode cX3_moveTo 13 = .ok (.if_icmp .ge 30, 3) := by decide +kernel
theorem dX3_moveTo_16 : decode cX3_moveTo 16 = .ok (.aload_n 0, 1) := by decide +kernel
theorem dX3_moveTo_17 : decode cX3_moveTo 17 = .ok (.getfield 9, 3) := by decide +kernel
theorem dX3_moveTo_20 : decode cX3_moveTo 20 = .ok (.aload_n 0, 1) := by decide +kernel
theorem dX3_moveTo_21 : decode cX3_moveTo 21 = .ok (.getfield 50, 3) := by decide +kernel
theorem dX3_moveTo_24 : decode cX3_moveTo 24 = .ok (.baload, 1) := by decide +kernel
theorem dX3_moveTo_25 : decode cX3_moveTo 25 = .ok (.bipush 32, 2) := by decide +kernel
theorem dX3_moveTo_27 : decode cX3_moveTo 27 = .ok (.if_icmp .ne 16, 3) := by decide +kernel
theorem dX3_moveTo_30 : decode cX3_moveTo 30 = .ok (.aload_n 0, 1) := by decide +kernel
theorem dX3_moveTo_31 : decode cX3_moveTo 31 = .ok (.dup, 1) := by decide +kernel
theorem dX3_moveTo_32 : decode cX3_moveTo 32 = .ok (.getfield 50, 3) := by decide +kernel
theorem dX3_moveTo_35 : decode cX3_moveTo 35 = .ok (.iconst 1, 1) := by decide +kernel
theorem dX3_moveTo_36 : decode cX3_moveTo 36 = .ok (.iadd, 1) := by decide +kernel
theorem dX3_moveTo_37 : decode cX3_moveTo 37 = .ok (.putfield 50, 3) := by decide +kernel
theorem dX3_moveTo_40 : decode cX3_moveTo 40 = .ok (.goto (-35), 3) := by decide +kernel
theorem dX3_moveTo_43 : decode cX3_moveTo 43 = .ok (.aload_n 0, 1) := by decide +kernel
theorem dX3_moveTo_44 : decode cX3_moveTo 44 = .ok (.aload_n 0, 1) := by decide +kernel
theorem dX3_moveTo_45 : decode cX3_moveTo 45 = .ok (.getfield 50, 3) := by decide +kernel
theorem dX3_moveTo_48 : decode cX3_moveTo 48 = .ok (.putfield 71, 3) := by decide +kernel
theorem dX3_moveTo_51 : decode cX3_moveTo 51 = .ok (.aload_n 0, 1) := by decide +kernel
theorem dX3_moveTo_52 : decode cX3_moveTo 52 = .ok (.getfield 71, 3) := by decide +kernel
theorem dX3_moveTo_55 : decode cX3_moveTo 55 = .ok (.aload_n 0, 1) := by decide +kernel
theorem dX3_moveTo_56 : decode cX3_moveTo 56 = .ok (.getfield 19, 3) := by decide +kernel
theorem dX3_moveTo_59 : decode cX3_moveTo 59 = .ok (.if_icmp .ge 44, 3) := by decide +kernel
theorem dX3_moveTo_62 : decode cX3_moveTo 62 = .ok (.aload_n 0, 1) := by decide +kernel
theorem dX3_moveTo_63 : decode cX3_moveTo 63 = .ok (.getfield 9, 3) := by decide +kernel
theorem dX3_moveTo_66 : decode cX3_moveTo 66 = .ok (.aload_n 0, 1) := by decide +kernel
theorem dX3_moveTo_67 : decode cX3_moveTo 67 = .ok (.getfield 71, 3) := by decide +kernel
theorem dX3_moveTo_70 : decode cX3_moveTo 70 = .ok (.baload, 1) := by decide +kernel
theorem dX3_moveTo_71 : decode cX3_moveTo 71 = .ok (.bipush 97, 2) := by decide +kernel
theorem dX3_moveTo_73 : decode cX3_moveTo 73 = .ok (.if_icmp .lt 30, 3) := by decide +kernel
theorem dX3_moveTo_76 : decode cX3_moveTo 76 = .ok (.aload_n 0, 1) := by decide +kernel
theorem dX3_moveTo_77 : decode cX3_moveTo 77 = .ok (.getfield 9, 3) := by decide +kernel
theorem dX3_moveTo_80 : decode cX3_moveTo 80 = .ok (.aload_n 0, 1) := by decide +kernel
theorem dX3_moveTo_81 : decode cX3_moveTo 81 = .ok (.getfield 71, 3) := by decide +kernel
theorem dX3_moveTo_84 : decode cX3_moveTo 84 = .ok (.baload, 1) := by decide +kernel
theorem dX3_moveTo_85 : decode cX3_moveTo 85 = .ok (.bipush 122, 2) := by decide +kernel
theorem dX3_moveTo_87 : decode cX3_moveTo 87 = .ok (.if_icmp .gt 16, 3) := by decide +kernel
theorem dX3_moveTo_90 : decode cX3_moveTo 90 = .ok (.aload_n 0, 1) := by decide +kernel
theorem dX3_moveTo_91 : decode cX3_moveTo 91 = .ok (.dup, 1) := by decide +kernel
theorem dX3_moveTo_92 : decode cX3_moveTo 92 = .ok (.getfield 71, 3) := by decide +kernel
theorem dX3_moveTo_95 : decode cX3_moveTo 95 = .ok (.iconst 1, 1) := by decide +kernel
theorem dX3_moveTo_96 : decode cX3_moveTo 96 = .ok (.iadd, 1) := by decide +kernel
theorem dX3_moveTo_97 : decode cX3_moveTo 97 = .ok (.putfield 71, 3) := by decide +kernel
theorem dX3_moveTo_100 : decode cX3_moveTo 100 = .ok (.goto (-49), 3) := by decide +kernel
theorem dX3_moveTo_103 : decode cX3_moveTo 103 = .ok (.return_, 1) := by decide +kernel
theorem eX3_moveTo {W : zWd} {B : Nat → Int} {N p : Nat}  {Q : Option Value → zWd → Prop} {X : zX} (hT : zTx W B N) (hp : p ≤ N) (hq : ∀ W' : zWd, zOffr W W' → (∀ j : Int, j ≠ 2 → j ≠ 3 → W' 112 j = W 112 j) → zTx W' B N → zTk W' B N (sSk B N p) → Q none W') : Ev MX3_moveTo 0 0 W [.ref 112, zI (p : Int)] Q X := by
  refine ev_of (ls := [.ref 112, zI (p : Int)]) (by decide) rfl (fun _ => rfl) (fun _ => Nat.le_of_ble_eq_true rfl) (Or.inl rfl) ?_
  have h600 := hT.2.1
  have loop2 : ∀ (n : Nat) (i : Nat) (Wi : zWd), i ≤ N → zOffr W Wi → (∀ j : Int, j ≠ 2 → j ≠ 3 → Wi 112 j = W 112 j) → Wi 112 2 = (sSk B N p : Nat) → Wi 112 3 = i → sWe B N (sSk B N p) = sWe B N i → N - i < n → RR MX3_moveTo 0 0 Wi 51 [.ref 112, zI (p : Int)] [] (zEnd MX3_moveTo Q X) X := by
    intro n
    induction n with
    | zero => intro i Wi _ _ _ _ _ _ hm9; omega
    | succ n ih =>
      intro i Wi h2 hO hF e2 e3 hw hm9
      have tX := hT.off (hF 1 (by decide) (by decide)) (hO 113 (by decide))
      refine rr_aload_n (pc := 51) dX3_moveTo_51 rfl ?_
      refine rr_getI (pc := 52) (ji := 3) dX3_moveTo_52 fX3_71 zk_112 zr_112_3 rfl ?_
      rw [e3]
      refine rr_aload_n (pc := 55) dX3_moveTo_55 rfl ?_
      refine rr_getI (pc := 56) (ji := 1) dX3_moveTo_56 fX3_19 zk_112 zr_112_1 rfl ?_
      rw [tX.1]
      refine rr_icmp_ge (pc := 59) (tgt := 103) dX3_moveTo_59 (by decide) (by unfold zR; omega) (by unfold zR; omega) (fun h59 => ?_) (fun h59 => ?_)
      · have hnl : ¬ (i < N ∧ fLe (B i) = true) := fun z => by
          have z2 := of_decide_eq_true z.2
          omega
        exact rr_retv (pc := 103) dX3_moveTo_103 rfl rfl (hq Wi hO hF tX ⟨e2, by rw [e3, hw.trans (sRun_n hnl)], (sRun_rng _ _ hp).2⟩)
      · have hb := tX.2.2 i (by omega)
        have hbs := sB_rng hb.1 hb.2.1
        refine rr_aload_n (pc := 62) dX3_moveTo_62 rfl ?_
        refine rr_getR (pc := 63) dX3_moveTo_63 fX3_9 zk_112 zr_112_0 ?_
        refine rr_aload_n (pc := 66) dX3_moveTo_66 rfl ?_
        refine rr_getI (pc := 67) (ji := 3) dX3_moveTo_67 fX3_71 zk_112 zr_112_3 rfl ?_
        rw [e3]
        refine rr_bald (pc := 70) dX3_moveTo_70 zk_113 (by omega) (by omega) ?_
        rw [hb.2.2]
        refine rr_bipush (n := (97)) dX3_moveTo_71 ?_
        refine rr_icmp_lt (pc := 73) (tgt := 103) dX3_moveTo_73 (by decide) (by unfold zR; omega) (by unfold zR; omega) (fun h73 => ?_) (fun h73 => ?_)
        · have hnl : ¬ (i < N ∧ fLe (B i) = true) := fun z => by
            have z2 := of_decide_eq_true z.2
            unfold sB at h73; split at h73 <;> omega
          exact rr_retv (pc := 103) dX3_moveTo_103 rfl rfl (hq Wi hO hF tX ⟨e2, by rw [e3, hw.trans (sRun_n hnl)], (sRun_rng _ _ hp).2⟩)
        · refine rr_aload_n (pc := 76) dX3_moveTo_76 rfl ?_
          refine rr_getR (pc := 77) dX3_moveTo_77 fX3_9 zk_112 zr_112_0 ?_
          refine rr_aload_n (pc := 80) dX3_moveTo_80 rfl ?_
          refine rr_getI (pc := 81) (ji := 3) dX3_moveTo_81 fX3_71 zk_112 zr_112_3 rfl ?_
          rw [e3]
          refine rr_bald (pc := 84) dX3_moveTo_84 zk_113 (by omega) (by omega) ?_
          rw [hb.2.2]
          refine rr_bipush (n := (122)) dX3_moveTo_85 ?_
          refine rr_icmp_gt (pc := 87) (tgt := 103) dX3_moveTo_87 (by decide) (by unfold zR; omega) (by unfold zR; omega) (fun h87 => ?_) (fun h87 => ?_)
          · have hnl : ¬ (i < N ∧ fLe (B i) = true) := fun z => by
              have z2 := of_decide_eq_true z.2
              unfold sB at h87; split at h87 <;> omega
            exact rr_retv (pc := 103) dX3_moveTo_103 rfl rfl (hq Wi hO hF tX ⟨e2, by rw [e3, hw.trans (sRun_n hnl)], (sRun_rng _ _ hp).2⟩)
          · refine rr_aload_n (pc := 90) dX3_moveTo_90 rfl ?_
            refine rr_dup_r (pc := 91) dX3_moveTo_91 ?_
            refine rr_getI (pc := 92) (ji := 3) dX3_moveTo_92 fX3_71 zk_112 zr_112_3 rfl ?_
            rw [e3]
            refine rr_iconst (n := 1) dX3_moveTo_95 ?_
            refine rr_iadd (pc := 96) dX3_moveTo_96 ?_
            refine rr_put (pc := 97) (ji := 3) dX3_moveTo_97 fX3_71 fp_3_3 zk_112 zr_112_3 rfl ?_
            refine rr_goto (pc := 100) (tgt := 51) dX3_moveTo_100 (by decide) ?_
            have hlt : i < N ∧ fLe (B i) = true := ⟨by omega, decide_eq_true (by unfold sB at h73 h87; split at h73 <;> omega)⟩
            exact ih (i + 1) _ (by omega) hO.up (fun j g1 g2 => by rw [zup_i g2]; exact hF j g1 g2) (by rw [zup_i (by decide)]; exact e2) (by rw [zup_s]; omega) (hw.trans (sRun_y hlt.1 hlt.2)) (by omega)
  have loop : ∀ (n : Nat) (i : Nat) (Wi : zWd), i ≤ N → zOffr W Wi → (∀ j : Int, j ≠ 2 → j ≠ 3 → Wi 112 j = W 112 j) → Wi 112 2 = i → sSk B N p = sSk B N i → N - i < n → RR MX3_moveTo 0 0 Wi 5 [.ref 112, zI (p : Int)] [] (zEnd MX3_moveTo Q X) X := by
    intro n
    induction n with
    | zero => intro i Wi _ _ _ _ _ hm9; omega
    | succ n ih =>
      intro i Wi h2 hO hF e2 hs hm9
      have tX := hT.off (hF 1 (by decide) (by decide)) (hO 113 (by decide))
      refine rr_aload_n (pc := 5) dX3_moveTo_5 rfl ?_
      refine rr_getI (pc := 6) (ji := 2) dX3_moveTo_6 fX3_50 zk_112 zr_112_2 rfl ?_
      rw [e2]
      refine rr_aload_n (pc := 9) dX3_moveTo_9 rfl ?_
      refine rr_getI (pc := 10) (ji := 1) dX3_moveTo_10 fX3_19 zk_112 zr_112_1 rfl ?_
      rw [tX.1]
      refine rr_icmp_ge (pc := 13) (tgt := 43) dX3_moveTo_13 (by decide) (by unfold zR; omega) (by unfold zR; omega) (fun h13 => ?_) (fun h13 => ?_)
      · refine rr_aload_n (pc := 43) dX3_moveTo_43 rfl ?_
        refine rr_aload_n (pc := 44) dX3_moveTo_44 rfl ?_
        refine rr_getI (pc := 45) (ji := 2) dX3_moveTo_45 fX3_50 zk_112 zr_112_2 rfl ?_
        rw [e2]
        refine rr_put (pc := 48) (ji := 3) dX3_moveTo_48 fX3_71 fp_3_3 zk_112 zr_112_3 rfl ?_
        have hnl : ¬ (i < N ∧ fSp (B i) = true) := fun z => by
          have z2 := of_decide_eq_true z.2
          omega
        have hs := hs.trans (sRun_n hnl)
        exact loop2 _ i _ h2 hO.up (fun j g1 g2 => by rw [zup_i g2]; exact hF j g1 g2) (by rw [zup_i (by decide), e2, hs]) zup_s (by rw [hs]) (Nat.lt_succ_self _)
      · have hb := tX.2.2 i (by omega)
        have hbs := sB_rng hb.1 hb.2.1
        refine rr_aload_n (pc := 16) dX3_moveTo_16 rfl ?_
        refine rr_getR (pc := 17) dX3_moveTo_17 fX3_9 zk_112 zr_112_0 ?_
        refine rr_aload_n (pc := 20) dX3_moveTo_20 rfl ?_
        refine rr_getI (pc := 21) (ji := 2) dX3_moveTo_21 fX3_50 zk_112 zr_112_2 rfl ?_
        rw [e2]
        refine rr_bald (pc := 24) dX3_moveTo_24 zk_113 (by omega) (by omega) ?_
        rw [hb.2.2]
        refine rr_bipush (n := (32)) dX3_moveTo_25 ?_
        refine rr_icmp_ne (pc := 27) (tgt := 43) dX3_moveTo_27 (by decide) (by unfold zR; omega) (by unfold zR; omega) (fun h27 => ?_) (fun h27 => ?_)
        · refine rr_aload_n (pc := 43) dX3_moveTo_43 rfl ?_
          refine rr_aload_n (pc := 44) dX3_moveTo_44 rfl ?_
          refine rr_getI (pc := 45) (ji := 2) dX3_moveTo_45 fX3_50 zk_112 zr_112_2 rfl ?_
          rw [e2]
          refine rr_put (pc := 48) (ji := 3) dX3_moveTo_48 fX3_71 fp_3_3 zk_112 zr_112_3 rfl ?_
          have hnl : ¬ (i < N ∧ fSp (B i) = true) := fun z => by
            have z2 := of_decide_eq_true z.2
            unfold sB at h27; split at h27 <;> omega
          have hs := hs.trans (sRun_n hnl)
          exact loop2 _ i _ h2 hO.up (fun j g1 g2 => by rw [zup_i g2]; exact hF j g1 g2) (by rw [zup_i (by decide), e2, hs]) zup_s (by rw [hs]) (Nat.lt_succ_self _)
        · refine rr_aload_n (pc := 30) dX3_moveTo_30 rfl ?_
          refine rr_dup_r (pc := 31) dX3_moveTo_31 ?_
          refine rr_getI (pc := 32) (ji := 2) dX3_moveTo_32 fX3_50 zk_112 zr_112_2 rfl ?_
          rw [e2]
          refine rr_iconst (n := 1) dX3_moveTo_35 ?_
          refine rr_iadd (pc := 36) dX3_moveTo_36 ?_
          refine rr_put (pc := 37) (ji := 2) dX3_moveTo_37 fX3_50 fp_3_2 zk_112 zr_112_2 rfl ?_
          refine rr_goto (pc := 40) (tgt := 5) dX3_moveTo_40 (by decide) ?_
          have hlt : i < N ∧ fSp (B i) = true := ⟨by omega, decide_eq_true (by unfold sB at h27; split at h27 <;> omega)⟩
          exact ih (i + 1) _ (by omega) hO.up (fun j g1 g2 => by rw [zup_i g1]; exact hF j g1 g2) (by rw [zup_s]; omega) (hs.trans (sRun_y hlt.1 hlt.2)) (by omega)
  refine rr_aload_n (pc := 0) dX3_moveTo_0 rfl ?_
  refine rr_iload_n (pc := 1) dX3_moveTo_1 rfl ?_
  refine rr_put (pc := 2) (ji := 2) dX3_moveTo_2 fX3_50 fp_3_2 zk_112 zr_112_2 rfl ?_
  exact loop _ p _ hp zOffr.rf.up (fun j g1 g2 => by rw [zup_i g1]) zup_s rfl (Nat.lt_succ_self _)
/-- the word w stands at p -/
def sW (B : Nat → Int) (N p : Nat) (w : List Int) : Bool := decide (sWe B N p - p = w.length) && (List.range w.length).all (fun k => decide (B (p + k) = w.getD k 0))
theorem sW_iff {B : Nat → Int} {N p : Nat} {w : List Int} : sW B N p w = true ↔ sWe B N p - p = w.length ∧ ∀ k : Nat, k < w.length → B (p + k) = w.getD k 0 := by
  unfold sW
  rw [Bool.and_eq_true, decide_eq_true_eq, List.all_eq_true]
  exact and_congr_right fun _ => ⟨fun h k hk => of_decide_eq_true (h k (List.mem_range.mpr hk)), fun h k hk => decide_eq_true (h k (List.mem_range.mp hk))⟩
def zWo (q : String × Nat × String × List Int) : Prop := q.2.2.2.length < 1000 ∧ ∀ k : Nat, k < q.2.2.2.length → 0 ≤ q.2.2.2.getD k 0 ∧ q.2.2.2.getD k 0 < 128
def adv (B : Nat → Int) (N p : Nat) : Nat := sSk B N (sWe B N p)
theorem dX3_nextIsWord_0 : decode cX3_nextIsWord 0 = .ok (.aload_n 0, 1) := by decide +kernel
theorem dX3_nextIsWord_1 : decode cX3_nextIsWord 1 = .ok (.getfield 71, 3) := by decide +kernel
theorem dX3_nextIsWord_4 : decode cX3_nextIsWord 4 = .ok (.aload_n 0, 1) := by decide +kernel
theorem dX3_nextIsWord_5 : decode cX3_nextIsWord 5 = .ok (.getfield 50, 3) := by decide +kernel
theorem dX3_nextIsWord_8 : decode cX3_nextIsWord 8 = .ok (.isub, 1) := by decide +kernel
theorem dX3_nextIsWord_9 : decode cX3_nextIsWord 9 = .ok (.aload_n 1, 1) := by decide +kernel
theorem dX3_nextIsWord_10 : decode cX3_nextIsWord 10 = .ok (.invokevirtual 149, 3) := by decide +kernel
theorem dX3_nextIsWord_13 : decode cX3_nextIsWord 13 = .ok (.if_icmp .eq 5, 3) := by decide +kernel
theorem dX3_nextIsWord_16 : decode cX3_nextIsWord 16 = .ok (.iconst 0, 1) := by decide +kernel
theorem dX3_nextIsWord_17 : decode cX3_nextIsWord 17 = .ok (.ireturn, 1) := by decide +kernel
theorem dX3_nextIsWord_18 : decode cX3_nextIsWord 18 = .ok (.iconst 0, 1) := by decide +kernel
theorem dX3_nextIsWord_19 : decode cX3_nextIsWord 19 = .ok (.istore_n 2, 1) := by decide +kernel
theorem dX3_nextIsWord_20 : decode cX3_nextIsWord 20 = .ok (.iload_n 2, 1) := by decide +kernel
theorem dX3_nextIsWord_21 : decode cX3_nextIsWord 21 = .ok (.aload_n 1, 1) := by decide +kernel
theorem dX3_nextIsWord_22 : decode cX3_nextIsWord 22 = .ok (.invokevirtual 149, 3) := by decide +kernel
theorem dX3_nextIsWord_25 : decode cX3_nextIsWord 25 = .ok (.if_icmp .ge 30, 3) := by decide +kernel
theorem dX3_nextIsWord_28 : decode cX3_nextIsWord 28 = .ok (.aload_n 0, 1) := by decide +kernel
theorem dX3_nextIsWord_29 : decode cX3_nextIsWord 29 = .ok (.getfield 9, 3) := by decide +kernel
theorem dX3_nextIsWord_32 : decode cX3_nextIsWord 32 = .ok (.aload_n 0, 1) := by decide +kernel
theorem dX3_nextIsWord_33 : decode cX3_nextIsWord 33 = .ok (.getfield 50, 3) := by decide +kernel
theorem dX3_nextIsWord_36 : decode cX3_nextIsWord 36 = .ok (.iload_n 2, 1) := by decide +kernel
theorem dX3_nextIsWord_37 : decode cX3_nextIsWord 37 = .ok (.iadd, 1) := by decide +kernel
theorem dX3_nextIsWord_38 : decode cX3_nextIsWord 38 = .ok (.baload, 1) := by decide +kernel
theorem dX3_nextIsWord_39 : decode cX3_nextIsWord 39 = .ok (.aload_n 1, 1) := by decide +kernel
theorem dX3_nextIsWord_40 : decode cX3_nextIsWord 40 = .ok (.iload_n 2, 1) := by decide +kernel
theorem dX3_nextIsWord_41 : decode cX3_nextIsWord 41 = .ok (.invokevirtual 154, 3) := by decide +kernel
theorem dX3_nextIsWord_44 : decode cX3_nextIsWord 44 = .ok (.if_icmp .eq 5, 3) := by decide +kernel
theorem dX3_nextIsWord_47 : decode cX3_nextIsWord 47 = .ok (.iconst 0, 1) := by decide +kernel
theorem dX3_nextIsWord_48 : decode cX3_nextIsWord 48 = .ok (.ireturn, 1) := by decide +kernel
theorem dX3_nextIsWord_49 : decode cX3_nextIsWord 49 = .ok (.iinc 2 1, 3) := by decide +kernel
theorem dX3_nextIsWord_52 : decode cX3_nextIsWord 52 = .ok (.goto (-32), 3) := by decide +kernel
theorem dX3_nextIsWord_55 : decode cX3_nextIsWord 55 = .ok (.iconst 1, 1) := by decide +kernel
theorem dX3_nextIsWord_56 : decode cX3_nextIsWord 56 = .ok (.ireturn, 1) := by decide +kernel
theorem eX3_nextIsWord {W : zWd} {B : Nat → Int} {N p : Nat} {i : Nat} {q : String × Nat × String × List Int} {Q : Option Value → zWd → Prop} {X : zX} (hs : zStrs[i]? = some q) (hw : zWo q) (hR : zRd W B N p) (hq : Q (some (zI (if sW B N p q.2.2.2 = true then 1 else 0))) W) : Ev MX3_nextIsWord 4 0 W [.ref 112, .ref (1000 + i)] Q X := by
  refine ev_of (ls := [.ref 112, .ref (1000 + i), .null]) (by decide) rfl (fun _ => rfl) (fun _ => Nat.le_of_ble_eq_true rfl) (Or.inl rfl) ?_
  refine rr_aload_n (pc := 0) dX3_nextIsWord_0 rfl ?_
  refine rr_getI (pc := 1) (ji := 3) dX3_nextIsWord_1 fX3_71 zk_112 zr_112_3 rfl ?_
  rw [hR.2.2.1]
  refine rr_aload_n (pc := 4) dX3_nextIsWord_4 rfl ?_
  refine rr_getI (pc := 5) (ji := 2) dX3_nextIsWord_5 fX3_50 zk_112 zr_112_2 rfl ?_
  rw [hR.2.1]
  refine rr_isub (pc := 8) dX3_nextIsWord_8 ?_
  refine rr_aload_n (pc := 9) dX3_nextIsWord_9 rfl ?_
  refine rr_invS (M' := MJ0_length_8abf5) (As := []) (pc := 10) hs dX3_nextIsWord_10 lX3_149 kJ0_length_8abf5 vJ0_length_8abf5 rfl (by decide) (by decide) (Nat.le_of_ble_eq_true rfl) rfl (eJ0_length_8abf5 hs hw.1 ?_)
  have h600 := hR.1.2.1
  have hwl := hw.1
  have hpN := hR.2.2.2
  have hwe : p ≤ sWe B N p ∧ sWe B N p ≤ N := sRun_rng (f := fLe) (B := B) (N := N) (N - p) p hpN
  by_cases hL : sWe B N p - p = q.2.2.2.length
  · have loop : ∀ (n : Nat) (k : Nat), k ≤ q.2.2.2.length → (∀ j : Nat, j < k → B (p + j) = q.2.2.2.getD j 0) → q.2.2.2.length - k < n → RR MX3_nextIsWord 4 0 W 20 [.ref 112, .ref (1000 + i), zI (k : Int)] [] (zEnd MX3_nextIsWord Q X) X := by
      intro n
      induction n with
      | zero => intro k _ _ hm9; omega
      | succ n ih =>
        intro k h2 hA hm9
        refine rr_iload_n (pc := 20) dX3_nextIsWord_20 rfl ?_
        refine rr_aload_n (pc := 21) dX3_nextIsWord_21 rfl ?_
        refine rr_invS (M' := MJ0_length_8abf5) (As := []) (pc := 22) hs dX3_nextIsWord_22 lX3_149 kJ0_length_8abf5 vJ0_length_8abf5 rfl (by decide) (by decide) (Nat.le_of_ble_eq_true rfl) rfl (eJ0_length_8abf5 hs hw.1 ?_)
        refine rr_icmp_ge (pc := 25) (tgt := 55) dX3_nextIsWord_25 (by decide) (by unfold zR; omega) (by unfold zR; omega) (fun h25 => ?_) (fun h25 => ?_)
        · refine rr_iconst (n := 1) dX3_nextIsWord_55 ?_
          exact rr_reti (pc := 56) dX3_nextIsWord_56 rfl rfl (by rw [if_pos (sW_iff.mpr ⟨by omega, fun j hj => hA j (by omega)⟩)]) rfl (hq)
        · refine rr_aload_n (pc := 28) dX3_nextIsWord_28 rfl ?_
          refine rr_getR (pc := 29) dX3_nextIsWord_29 fX3_9 zk_112 zr_112_0 ?_
          refine rr_aload_n (pc := 32) dX3_nextIsWord_32 rfl ?_
          refine rr_getI (pc := 33) (ji := 2) dX3_nextIsWord_33 fX3_50 zk_112 zr_112_2 rfl ?_
          rw [hR.2.1]
          refine rr_iload_n (pc := 36) dX3_nextIsWord_36 rfl ?_
          refine rr_iadd (pc := 37) dX3_nextIsWord_37 ?_
          have hb := hR.1.2.2 (p + k) (by omega)
          refine rr_bald (pc := 38) dX3_nextIsWord_38 zk_113 (by omega) (by omega) ?_
          rw [show (p : Int) + (k : Int) = ((p + k : Nat) : Int) by omega, hb.2.2]
          have hbs := sB_rng hb.1 hb.2.1
          have hwk := hw.2 k (by omega)
          refine rr_aload_n (pc := 39) dX3_nextIsWord_39 rfl ?_
          refine rr_iload_n (pc := 40) dX3_nextIsWord_40 rfl ?_
          refine rr_invS (M' := MJ0_charAt_5068e) (As := [_]) (pc := 41) hs dX3_nextIsWord_41 lX3_154 kJ0_charAt_5068e vJ0_charAt_5068e rfl (by decide) (by decide) (Nat.le_of_ble_eq_true rfl) rfl (eJ0_charAt_5068e hs hw.1 (by omega) (by omega) hwk.1 hwk.2 ?_)
          rw [Int.toNat_natCast]
          refine rr_icmp_eq (pc := 44) (tgt := 49) dX3_nextIsWord_44 (by decide) (by unfold zR; omega) (by unfold zR; omega) (fun h44 => ?_) (fun h44 => ?_)
          · refine rr_iinc (pc := 49) dX3_nextIsWord_49 rfl (by decide) ?_
            refine rr_goto (pc := 52) (tgt := 20) dX3_nextIsWord_52 (by decide) ?_
            refine ih (k + 1) (by omega) (fun j g => ?_) (by omega)
            by_cases z : j = k
            · subst z; exact (sB_eq hb.1 hb.2.1 hwk.1 hwk.2).mp h44
            · exact hA j (by omega)
          · refine rr_iconst (n := 0) dX3_nextIsWord_47 ?_
            exact rr_reti (pc := 48) dX3_nextIsWord_48 rfl rfl (by rw [if_neg (fun z => h44 ((sB_eq hb.1 hb.2.1 hwk.1 hwk.2).mpr ((sW_iff.mp z).2 k (by omega))))]) rfl (hq)
    refine rr_icmp_eq (pc := 13) (tgt := 18) dX3_nextIsWord_13 (by decide) (by unfold zR; omega) (by unfold zR; omega) (fun h13 => ?_) (fun h13 => ?_)
    · refine rr_iconst (n := 0) dX3_nextIsWord_18 ?_
      refine rr_istore_n (pc := 19) dX3_nextIsWord_19 (by decide) ?_
      exact loop _ 0 (by omega) (fun k g => by omega) (Nat.lt_succ_self _)
    · refine rr_iconst (n := 0) dX3_nextIsWord_16 ?_
      exact rr_reti (pc := 17) dX3_nextIsWord_17 rfl rfl (by rw [if_neg (fun z => by have := (sW_iff.mp z).1; omega)]) rfl (hq)
  · refine rr_icmp_eq (pc := 13) (tgt := 18) dX3_nextIsWord_13 (by decide) (by unfold zR; omega) (by unfold zR; omega) (fun h13 => absurd h13 (by omega)) (fun h13 => ?_)
    refine rr_iconst (n := 0) dX3_nextIsWord_16 ?_
    exact rr_reti (pc := 17) dX3_nextIsWord_17 rfl rfl (by rw [if_neg (fun z => hL (sW_iff.mp z).1)]) rfl hq
