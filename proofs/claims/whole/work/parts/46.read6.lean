def sRowsC (B : Nat → Int) (N p : Nat) : zRs := if sW B N p wCourt = true then sRows B N 11 0 (adv B N p) a00 else .inl (-2, p)
theorem dX3_readRows_0 : decode cX3_readRows 0 = .ok (.aload_n 0, 1) := by decide +kernel
theorem dX3_readRows_1 : decode cX3_readRows 1 = .ok (.ldc 44, 2) := by decide +kernel
theorem dX3_readRows_3 : decode cX3_readRows 3 = .ok (.invokevirtual 46, 3) := by decide +kernel
theorem dX3_readRows_6 : decode cX3_readRows 6 = .ok (.ifCond .ne 14, 3) := by decide +kernel
theorem dX3_readRows_9 : decode cX3_readRows 9 = .ok (.aload_n 0, 1) := by decide +kernel
theorem dX3_readRows_10 : decode cX3_readRows 10 = .ok (.bipush (-2), 2) := by decide +kernel
theorem dX3_readRows_12 : decode cX3_readRows 12 = .ok (.aload_n 0, 1) := by decide +kernel
theorem dX3_readRows_13 : decode cX3_readRows 13 = .ok (.getfield 50, 3) := by decide +kernel
theorem dX3_readRows_16 : decode cX3_readRows 16 = .ok (.invokevirtual 53, 3) := by decide +kernel
theorem dX3_readRows_19 : decode cX3_readRows 19 = .ok (.ireturn, 1) := by decide +kernel
theorem dX3_readRows_20 : decode cX3_readRows 20 = .ok (.iconst 0, 1) := by decide +kernel
theorem dX3_readRows_21 : decode cX3_readRows 21 = .ok (.istore_n 2, 1) := by decide +kernel
theorem dX3_readRows_22 : decode cX3_readRows 22 = .ok (.iload_n 2, 1) := by decide +kernel
theorem dX3_readRows_23 : decode cX3_readRows 23 = .ok (.bipush 10, 2) := by decide +kernel
theorem dX3_readRows_25 : decode cX3_readRows 25 = .ok (.if_icmp .gt 94, 3) := by decide +kernel
theorem dX3_readRows_28 : decode cX3_readRows 28 = .ok (.aload_n 0, 1) := by decide +kernel
theorem dX3_readRows_29 : decode cX3_readRows 29 = .ok (.ldc 57, 2) := by decide +kernel
theorem dX3_readRows_31 : decode cX3_readRows 31 = .ok (.invokevirtual 59, 3) := by decide +kernel
theorem dX3_readRows_34 : decode cX3_readRows 34 = .ok (.ifCond .eq 7, 3) := by decide +kernel
theorem dX3_readRows_37 : decode cX3_readRows 37 = .ok (.iconst 1, 1) := by decide +kernel
theorem dX3_readRows_38 : decode cX3_readRows 38 = .ok (.goto 17, 3) := by decide +kernel
theorem dX3_readRows_41 : decode cX3_readRows 41 = .ok (.aload_n 0, 1) := by decide +kernel
theorem dX3_readRows_42 : decode cX3_readRows 42 = .ok (.ldc 62, 2) := by decide +kernel
theorem dX3_readRows_44 : decode cX3_readRows 44 = .ok (.invokevirtual 59, 3) := by decide +kernel
theorem dX3_readRows_47 : decode cX3_readRows 47 = .ok (.ifCond .eq 7, 3) := by decide +kernel
theorem dX3_readRows_50 : decode cX3_readRows 50 = .ok (.iconst 2, 1) := by decide +kernel
theorem dX3_readRows_51 : decode cX3_readRows 51 = .ok (.goto 4, 3) := by decide +kernel
theorem dX3_readRows_54 : decode cX3_readRows 54 = .ok (.iconst 0, 1) := by decide +kernel
theorem dX3_readRows_55 : decode cX3_readRows 55 = .ok (.istore_n 3, 1) := by decide +kernel
theorem dX3_readRows_56 : decode cX3_readRows 56 = .ok (.iload_n 3, 1) := by decide +kernel
theorem dX3_readRows_57 : decode cX3_readRows 57 = .ok (.ifCond .ne 26, 3) := by decide +kernel
theorem dX3_readRows_60 : decode cX3_readRows 60 = .ok (.iload_n 2, 1) := by decide +kernel
theorem dX3_readRows_61 : decode cX3_readRows 61 = .ok (.iconst 2, 1) := by decide +kernel
theorem dX3_readRows_62 : decode cX3_readRows 62 = .ok (.if_icmp .ge 16, 3) := by decide +kernel
theorem dX3_readRows_65 : decode cX3_readRows 65 = .ok (.aload_n 0, 1) := by decide +kernel
theorem dX3_readRows_66 : decode cX3_readRows 66 = .ok (.bipush (-2), 2) := by decide +kernel
theorem dX3_readRows_68 : decode cX3_readRows 68 = .ok (.aload_n 0, 1) := by decide +kernel
theorem dX3_readRows_69 : decode cX3_readRows 69 = .ok (.getfield 50, 3) := by decide +kernel
theorem dX3_readRows_72 : decode cX3_readRows 72 = .ok (.invokevirtual 53, 3) := by decide +kernel
theorem dX3_readRows_75 : decode cX3_readRows 75 = .ok (.goto 7, 3) := by decide +kernel
theorem dX3_readRows_78 : decode cX3_readRows 78 = .ok (.aload_n 0, 1) := by decide +kernel
theorem dX3_readRows_79 : decode cX3_readRows 79 = .ok (.invokevirtual 64, 3) := by decide +kernel
theorem dX3_readRows_82 : decode cX3_readRows 82 = .ok (.ireturn, 1) := by decide +kernel
theorem dX3_readRows_83 : decode cX3_readRows 83 = .ok (.iload_n 2, 1) := by decide +kernel
theorem dX3_readRows_84 : decode cX3_readRows 84 = .ok (.bipush 10, 2) := by decide +kernel
theorem dX3_readRows_86 : decode cX3_readRows 86 = .ok (.if_icmp .ne 14, 3) := by decide +kernel
theorem dX3_readRows_89 : decode cX3_readRows 89 = .ok (.aload_n 0, 1) := by decide +kernel
theorem dX3_readRows_90 : decode cX3_readRows 90 = .ok (.bipush (-5), 2) := by decide +kernel
theorem dX3_readRows_92 : decode cX3_readRows 92 = .ok (.aload_n 0, 1) := by decide +kernel
theorem dX3_readRows_93 : decode cX3_readRows 93 = .ok (.getfield 50, 3) := by decide +kernel
theorem dX3_readRows_96 : decode cX3_readRows 96 = .ok (.invokevirtual 53, 3) := by decide +kernel
theorem dX3_readRows_99 : decode cX3_readRows 99 = .ok (.ireturn, 1) := by decide +kernel
theorem dX3_readRows_100 : decode cX3_readRows 100 = .ok (.aload_n 1, 1) := by decide +kernel
theorem dX3_readRows_101 : decode cX3_readRows 101 = .ok (.iload_n 3, 1) := by decide +kernel
theorem dX3_readRows_102 : decode cX3_readRows 102 = .ok (.invokevirtual 68, 3) := by decide +kernel
theorem dX3_readRows_105 : decode cX3_readRows 105 = .ok (.aload_n 0, 1) := by decide +kernel
theorem dX3_readRows_106 : decode cX3_readRows 106 = .ok (.aload_n 0, 1) := by decide +kernel
theorem dX3_readRows_107 : decode cX3_readRows 107 = .ok (.getfield 71, 3) := by decide +kernel
theorem dX3_readRows_110 : decode cX3_readRows 110 = .ok (.invokevirtual 27, 3) := by decide +kernel
theorem dX3_readRows_113 : decode cX3_readRows 113 = .ok (.iinc 2 1, 3) := by decide +kernel
theorem dX3_readRows_116 : decode cX3_readRows 116 = .ok (.goto (-94), 3) := by decide +kernel
theorem dX3_readRows_119 : decode cX3_readRows 119 = .ok (.iconst 0, 1) := by decide +kernel
theorem dX3_readRows_120 : decode cX3_readRows 120 = .ok (.ireturn, 1) := by decide +kernel
theorem eX3_readRows {W : zWd} {B : Nat → Int} {N p : Nat}  {Q : Option Value → zWd → Prop} {X : zX} (hR : zRd W B N p) (hC : zCP W 8 a00) (hq : zRQ W B N (sRowsC B N p) Q) : Ev MX3_readRows 6 0 W [.ref 112, .ref 8] Q X := by
  refine ev_of (ls := [.ref 112, .ref 8, .null, .null]) (by decide) rfl (fun _ => rfl) (fun _ => Nat.le_of_ble_eq_true rfl) (Or.inl rfl) ?_
  refine rr_aload_n (pc := 0) dX3_readRows_0 rfl ?_
  refine rr_ldcs (pc := 1) 0 dX3_readRows_1 rfl ?_
  refine rr_inv0 (M' := MX3_takeWord) (k := 112) (As := [_]) (pc := 3) dX3_readRows_3 lX3_46 kX3_takeWord vX3_takeWord zk_112 (by decide) rfl (by decide) (by decide) (Nat.le_of_ble_eq_true rfl) rfl (eX3_takeWord (i := 0) zS_0 zO_0 hR (fun k0 => ?_) (fun k0 W0 o0 f0 r0 => ?_))
  · refine rr_if_ne (pc := 6) (tgt := 20) dX3_readRows_6 (by decide) (by unfold zR; omega) (fun h => by omega) (fun h => ?_)
    refine rr_aload_n (pc := 9) dX3_readRows_9 rfl ?_
    refine rr_bipush (n := (-2)) dX3_readRows_10 ?_
    refine rr_aload_n (pc := 12) dX3_readRows_12 rfl ?_
    refine rr_getI (pc := 13) (ji := 2) dX3_readRows_13 fX3_50 zk_112 zr_112_2 rfl ?_
    rw [hR.2.1]
    refine rr_inv0 (M' := MX3_fail) (k := 112) (As := [_, _]) (pc := 16) dX3_readRows_16 lX3_53 kX3_fail vX3_fail zk_112 (by decide) rfl (by decide) (by decide) (Nat.le_of_ble_eq_true rfl) rfl (eX3_fail (fun W1 o1 f5 f6 => ?_))
    exact rr_reti (pc := 19) dX3_readRows_19 rfl rfl rfl rfl (hq.e (if_neg k0) o1.q (o1.cp hC).by f5 f6)
  · refine rr_if_ne (pc := 6) (tgt := 20) dX3_readRows_6 (by decide) (by unfold zR; omega) (fun h => ?_) (fun h => by omega)
    refine rr_iconst (n := 0) dX3_readRows_20 ?_
    refine rr_istore_n (pc := 21) dX3_readRows_21 (by decide) ?_
    obtain ⟨r9, hr9⟩ : ∃ r, r = sRows B N 11 0 (adv B N p) a00 := ⟨_, rfl⟩
    have hq := hq.from (show sRowsC B N p = r9 by rw [hr9]; exact if_pos k0) o0.q (f0 6 (by decide) (by decide))
    have hC0 := o0.cp hC
    clear hR hC f0 o0
    generalize W0 = W at *
    have loop : ∀ (n : Nat) (r : Nat) (Wi : zWd) (pi : Nat) (ai : Int → Int) (x3 : Value), r ≤ 10 → zOffq W Wi → Wi 112 6 = W 112 6 → zRd Wi B N pi → zCP Wi 8 ai → ai 0 = r → sRows B N (11 - r) r pi ai = r9 → 11 - r < n → RR MX3_readRows 6 0 Wi 22 [.ref 112, .ref 8, zI (r : Int), x3] [] (zEnd MX3_readRows Q X) X := by
      intro n
      induction n with
      | zero => intro r Wi pi ai x3 _ _ _ _ _ _ _ hm9; omega
      | succ n ih =>
        intro r Wi pi ai x3 hi hO hE hRi hCi h0 hL hm9
        refine rr_iload_n (pc := 22) dX3_readRows_22 rfl ?_
        refine rr_bipush (n := (10)) dX3_readRows_23 ?_
        refine rr_icmp_gt (pc := 25) (tgt := 119) dX3_readRows_25 (by decide) (by unfold zR; omega) (by unfold zR; omega) (fun h25 => ?_) (fun h25 => ?_)
        · omega
        · rw [show 11 - r = (11 - (r + 1)) + 1 by omega] at hL
          unfold sRows at hL
          have h600 := hRi.1.2.1
          have hpN := hRi.2.2.2
          have hsq := hCi.2.2.sq
          refine rr_aload_n (pc := 28) dX3_readRows_28 rfl ?_
          refine rr_ldcs (pc := 29) 1 dX3_readRows_29 rfl ?_
          refine rr_inv0 (M' := MX3_nextIsWord) (k := 112) (As := [_]) (pc := 31) dX3_readRows_31 lX3_59 kX3_nextIsWord vX3_nextIsWord zk_112 (by decide) rfl (by decide) (by decide) (Nat.le_of_ble_eq_true rfl) rfl (eX3_nextIsWord (i := 1) zS_1 zO_1 hRi ?_)
          refine rr_if_eq (pc := 34) (tgt := 41) dX3_readRows_34 (by decide) (by split <;> (unfold zR; omega)) (fun h34 => ?_) (fun h34 => ?_)
          · refine rr_aload_n (pc := 41) dX3_readRows_41 rfl ?_
            refine rr_ldcs (pc := 42) 2 dX3_readRows_42 rfl ?_
            refine rr_inv0 (M' := MX3_nextIsWord) (k := 112) (As := [_]) (pc := 44) dX3_readRows_44 lX3_59 kX3_nextIsWord vX3_nextIsWord zk_112 (by decide) rfl (by decide) (by decide) (Nat.le_of_ble_eq_true rfl) rfl (eX3_nextIsWord (i := 2) zS_2 zO_2 hRi ?_)
            refine rr_if_eq (pc := 47) (tgt := 54) dX3_readRows_47 (by decide) (by split <;> (unfold zR; omega)) (fun h47 => ?_) (fun h47 => ?_)
            · refine rr_iconst (n := 0) dX3_readRows_54 ?_
              have hw9 : sWide B N pi = 0 := by unfold sWide; rw [if_neg (z_i10 h34), if_neg (z_i10 h47)]
              rw [hw9, if_pos rfl] at hL
              refine rr_istore_n (pc := 55) dX3_readRows_55 (by decide) ?_
              refine rr_iload_n (pc := 56) dX3_readRows_56 rfl ?_
              refine rr_if_ne (pc := 57) (tgt := 83) dX3_readRows_57 (by decide) (by unfold zR; omega) (fun h57 => ?_) (fun h57 => ?_)
              · omega
              · refine rr_iload_n (pc := 60) dX3_readRows_60 rfl ?_
                refine rr_iconst (n := 2) dX3_readRows_61 ?_
                refine rr_icmp_ge (pc := 62) (tgt := 78) dX3_readRows_62 (by decide) (by unfold zR; omega) (by unfold zR; omega) (fun h62 => ?_) (fun h62 => ?_)
                · refine rr_aload_n (pc := 78) dX3_readRows_78 rfl ?_
                  refine rr_inv0 (M' := MX3_readSemicolon) (k := 112) (As := []) (pc := 79) dX3_readRows_79 lX3_64 kX3_readSemicolon vX3_readSemicolon zk_112 (by decide) rfl (by decide) (by decide) (Nat.le_of_ble_eq_true rfl) rfl (eX3_readSemicolon hRi hCi (zRQ.of (hq.from (r' := sSemi B N pi ai) (by rw [← hL, if_neg (by omega)]) hO hE) (fun W1 hz => ?_) (fun W1 hz => ?_)))
                  · exact rr_reti (pc := 82) dX3_readRows_82 rfl rfl rfl rfl hz
                  exact rr_reti (pc := 82) dX3_readRows_82 rfl rfl rfl rfl (hz)
                · refine rr_aload_n (pc := 65) dX3_readRows_65 rfl ?_
                  refine rr_bipush (n := (-2)) dX3_readRows_66 ?_
                  refine rr_aload_n (pc := 68) dX3_readRows_68 rfl ?_
                  refine rr_getI (pc := 69) (ji := 2) dX3_readRows_69 fX3_50 zk_112 zr_112_2 rfl ?_
                  rw [hRi.2.1]
                  refine rr_inv0 (M' := MX3_fail) (k := 112) (As := [_, _]) (pc := 72) dX3_readRows_72 lX3_53 kX3_fail vX3_fail zk_112 (by decide) rfl (by decide) (by decide) (Nat.le_of_ble_eq_true rfl) rfl (eX3_fail (fun W1 o1 f5 f6 => ?_))
                  refine rr_goto (pc := 75) (tgt := 82) dX3_readRows_75 (by decide) ?_
                  exact rr_reti (pc := 82) dX3_readRows_82 rfl rfl rfl rfl (hq.e (by rw [← hL, if_pos (by omega)]) (hO.tr o1.q) (o1.cp hCi).by f5 f6)
            · refine rr_iconst (n := 2) dX3_readRows_50 ?_
              refine rr_goto (pc := 51) (tgt := 55) dX3_readRows_51 (by decide) ?_
              have hw9 : sWide B N pi = 2 := by unfold sWide; rw [if_neg (z_i10 h34), if_pos (z_i10n h47)]
              rw [hw9] at hL
              refine rr_istore_n (pc := 55) dX3_readRows_55 (by decide) ?_
              refine rr_iload_n (pc := 56) dX3_readRows_56 rfl ?_
              refine rr_if_ne (pc := 57) (tgt := 83) dX3_readRows_57 (by decide) (by unfold zR; omega) (fun h57 => ?_) (fun h57 => ?_)
              · refine rr_iload_n (pc := 83) dX3_readRows_83 rfl ?_
                refine rr_bipush (n := (10)) dX3_readRows_84 ?_
                refine rr_icmp_ne (pc := 86) (tgt := 100) dX3_readRows_86 (by decide) (by unfold zR; omega) (by unfold zR; omega) (fun h86 => ?_) (fun h86 => ?_)
                · refine rr_aload_n (pc := 100) dX3_readRows_100 rfl ?_
                  refine rr_iload_n (pc := 101) dX3_readRows_101 rfl ?_
                  rw [if_neg (by decide), if_neg (by omega)] at hL
                  refine rr_invN (M' := MX0_addRow) (k := 8) (As := [_]) (pc := 102) dX3_readRows_102 lX3_68 kX0_addRow vX0_addRow zCt_8.k (by decide) rfl (by decide) (by decide) (Nat.le_of_ble_eq_true rfl) rfl (eX0_addRow (w := 2) zCt_8 hCi (by omega) (by omega) (by omega) (fun W1 o1 c1 => ?_))
                  refine rr_aload_n (pc := 105) dX3_readRows_105 rfl ?_
                  refine rr_aload_n (pc := 106) dX3_readRows_106 rfl ?_
                  have r1 := o1.rd hRi
                  refine rr_getI (pc := 107) (ji := 3) dX3_readRows_107 fX3_71 zk_112 zr_112_3 rfl ?_
                  rw [r1.2.2.1]
                  refine rr_inv0 (M' := MX3_moveTo) (k := 112) (As := [_]) (pc := 110) dX3_readRows_110 lX3_27 kX3_moveTo vX3_moveTo zk_112 (by decide) rfl (by decide) (by decide) (Nat.le_of_ble_eq_true rfl) rfl (eX3_moveTo r1.1 (sRun_rng _ _ r1.2.2.2).2 (fun W2 o2 f2 t2 k2 => ?_))
                  refine rr_iinc (pc := 113) dX3_readRows_113 rfl (by decide) ?_
                  refine rr_goto (pc := 116) (tgt := 22) dX3_readRows_116 (by decide) ?_
                  refine rr_eqL ?_ (ih (r + 1) W2 (adv B N pi) _ (zI 2) (by omega) (hO.tr (o1.q.tr o2.q)) ((f2 6 (by decide) (by decide)).trans (o1.rd6.trans hE)) ⟨t2, k2⟩ (o2.cp c1) (by rw [aRow_0]; omega) hL (by omega))
                  rfl
                · refine rr_aload_n (pc := 89) dX3_readRows_89 rfl ?_
                  refine rr_bipush (n := (-5)) dX3_readRows_90 ?_
                  refine rr_aload_n (pc := 92) dX3_readRows_92 rfl ?_
                  refine rr_getI (pc := 93) (ji := 2) dX3_readRows_93 fX3_50 zk_112 zr_112_2 rfl ?_
                  rw [hRi.2.1]
                  refine rr_inv0 (M' := MX3_fail) (k := 112) (As := [_, _]) (pc := 96) dX3_readRows_96 lX3_53 kX3_fail vX3_fail zk_112 (by decide) rfl (by decide) (by decide) (Nat.le_of_ble_eq_true rfl) rfl (eX3_fail (fun W1 o1 f5 f6 => ?_))
                  exact rr_reti (pc := 99) dX3_readRows_99 rfl rfl rfl rfl (hq.e (by rw [← hL, if_neg (by decide), if_pos (by omega)]) (hO.tr o1.q) (o1.cp hCi).by f5 f6)
              · omega
          · refine rr_iconst (n := 1) dX3_readRows_37 ?_
            refine rr_goto (pc := 38) (tgt := 55) dX3_readRows_38 (by decide) ?_
            have hw9 : sWide B N pi = 1 := if_pos (z_i10n h34)
            rw [hw9] at hL
            refine rr_istore_n (pc := 55) dX3_readRows_55 (by decide) ?_
            refine rr_iload_n (pc := 56) dX3_readRows_56 rfl ?_
            refine rr_if_ne (pc := 57) (tgt := 83) dX3_readRows_57 (by decide) (by unfold zR; omega) (fun h57 => ?_) (fun h57 => ?_)
            · refine rr_iload_n (pc := 83) dX3_readRows_83 rfl ?_
              refine rr_bipush (n := (10)) dX3_readRows_84 ?_
              refine rr_icmp_ne (pc := 86) (tgt := 100) dX3_readRows_86 (by decide) (by unfold zR; omega) (by unfold zR; omega) (fun h86 => ?_) (fun h86 => ?_)
              · refine rr_aload_n (pc := 100) dX3_readRows_100 rfl ?_
                refine rr_iload_n (pc := 101) dX3_readRows_101 rfl ?_
                rw [if_neg (by decide), if_neg (by omega)] at hL
                refine rr_invN (M' := MX0_addRow) (k := 8) (As := [_]) (pc := 102) dX3_readRows_102 lX3_68 kX0_addRow vX0_addRow zCt_8.k (by decide) rfl (by decide) (by decide) (Nat.le_of_ble_eq_true rfl) rfl (eX0_addRow (w := 1) zCt_8 hCi (by omega) (by omega) (by omega) (fun W1 o1 c1 => ?_))
                refine rr_aload_n (pc := 105) dX3_readRows_105 rfl ?_
                refine rr_aload_n (pc := 106) dX3_readRows_106 rfl ?_
                have r1 := o1.rd hRi
                refine rr_getI (pc := 107) (ji := 3) dX3_readRows_107 fX3_71 zk_112 zr_112_3 rfl ?_
                rw [r1.2.2.1]
                refine rr_inv0 (M' := MX3_moveTo) (k := 112) (As := [_]) (pc := 110) dX3_readRows_110 lX3_27 kX3_moveTo vX3_moveTo zk_112 (by decide) rfl (by decide) (by decide) (Nat.le_of_ble_eq_true rfl) rfl (eX3_moveTo r1.1 (sRun_rng _ _ r1.2.2.2).2 (fun W2 o2 f2 t2 k2 => ?_))
                refine rr_iinc (pc := 113) dX3_readRows_113 rfl (by decide) ?_
                refine rr_goto (pc := 116) (tgt := 22) dX3_readRows_116 (by decide) ?_
                refine rr_eqL ?_ (ih (r + 1) W2 (adv B N pi) _ (zI 1) (by omega) (hO.tr (o1.q.tr o2.q)) ((f2 6 (by decide) (by decide)).trans (o1.rd6.trans hE)) ⟨t2, k2⟩ (o2.cp c1) (by rw [aRow_0]; omega) hL (by omega))
                rfl
              · refine rr_aload_n (pc := 89) dX3_readRows_89 rfl ?_
                refine rr_bipush (n := (-5)) dX3_readRows_90 ?_
                refine rr_aload_n (pc := 92) dX3_readRows_92 rfl ?_
                refine rr_getI (pc := 93) (ji := 2) dX3_readRows_93 fX3_50 zk_112 zr_112_2 rfl ?_
                rw [hRi.2.1]
                refine rr_inv0 (M' := MX3_fail) (k := 112) (As := [_, _]) (pc := 96) dX3_readRows_96 lX3_53 kX3_fail vX3_fail zk_112 (by decide) rfl (by decide) (by decide) (Nat.le_of_ble_eq_true rfl) rfl (eX3_fail (fun W1 o1 f5 f6 => ?_))
                exact rr_reti (pc := 99) dX3_readRows_99 rfl rfl rfl rfl (hq.e (by rw [← hL, if_neg (by decide), if_pos (by omega)]) (hO.tr o1.q) (o1.cp hCi).by f5 f6)
            · omega
    exact loop _ 0 W _ _ _ (by omega) zOffq.rf rfl r0 hC0 rfl hr9.symm (Nat.lt_succ_self _)
theorem sCourt_eq {B : Nat → Int} {N : Nat} : sCourt B N = zBind (sRowsC B N (sSk B N 0)) fun p a => zBind (sDrift B N p a) fun p a => sPlayers B N 7 0 p a := by
  unfold sCourt sRowsC
  by_cases z : sW B N (sSk B N 0) wCourt = true
  · rw [if_pos z, if_pos z]
  · rw [if_neg z, if_neg z]; rfl
theorem sRowsC_in {B : Nat → Int} {N p p' : Nat} {a' : Int → Int} (h : sRowsC B N p = .inr (p', a')) : 2 ≤ a' 0 ∧ a' 2 = 0 := by
  unfold sRowsC at h
  by_cases z : sW B N p wCourt = true
  · rw [if_pos z] at h; exact sRows_in 11 0 _ _ _ _ rfl rfl h
  · rw [if_neg z] at h; cases h
theorem dX3_readCourt_0 : decode cX3_readCourt 0 = .ok (.aload_n 0, 1) := by decide +kernel
theorem dX3_readCourt_1 : decode cX3_readCourt 1 = .ok (.iconst (-1), 1) := by decide +kernel
theorem dX3_readCourt_2 : decode cX3_readCourt 2 = .ok (.putfield 15, 3) := by decide +kernel
theorem dX3_readCourt_5 : decode cX3_readCourt 5 = .ok (.aload_n 1, 1) := by decide +kernel
theorem dX3_readCourt_6 : decode cX3_readCourt 6 = .ok (.invokevirtual 22, 3) := by decide +kernel
theorem dX3_readCourt_9 : decode cX3_readCourt 9 = .ok (.aload_n 0, 1) := by decide +kernel
theorem dX3_readCourt_10 : decode cX3_readCourt 10 = .ok (.iconst 0, 1) := by decide +kernel
theorem dX3_readCourt_11 : decode cX3_readCourt 11 = .ok (.invokevirtual 27, 3) := by decide +kernel
theorem dX3_readCourt_14 : decode cX3_readCourt 14 = .ok (.aload_n 0, 1) := by decide +kernel
theorem dX3_readCourt_15 : decode cX3_readCourt 15 = .ok (.aload_n 1, 1) := by decide +kernel
theorem dX3_readCourt_16 : decode cX3_readCourt 16 = .ok (.invokevirtual 31, 3) := by decide +kernel
theorem dX3_readCourt_19 : decode cX3_readCourt 19 = .ok (.ifCond .eq 23, 3) := by decide +kernel
theorem dX3_readCourt_22 : decode cX3_readCourt 22 = .ok (.aload_n 0, 1) := by decide +kernel
theorem dX3_readCourt_23 : decode cX3_readCourt 23 = .ok (.aload_n 1, 1) := by decide +kernel
theorem dX3_readCourt_24 : decode cX3_readCourt 24 = .ok (.invokevirtual 35, 3) := by decide +kernel
theorem dX3_readCourt_27 : decode cX3_readCourt 27 = .ok (.ifCond .eq 15, 3) := by decide +kernel
theorem dX3_readCourt_30 : decode cX3_readCourt 30 = .ok (.aload_n 0, 1) := by decide +kernel
theorem dX3_readCourt_31 : decode cX3_readCourt 31 = .ok (.aload_n 1, 1) := by decide +kernel
theorem dX3_readCourt_32 : decode cX3_readCourt 32 = .ok (.invokevirtual 38, 3) := by decide +kernel
theorem dX3_readCourt_35 : decode cX3_readCourt 35 = .ok (.ifCond .eq 7, 3) := by decide +kernel
theorem dX3_readCourt_38 : decode cX3_readCourt 38 = .ok (.iconst 1, 1) := by decide +kernel
theorem dX3_readCourt_39 : decode cX3_readCourt 39 = .ok (.goto 4, 3) := by decide +kernel
theorem dX3_readCourt_42 : decode cX3_readCourt 42 = .ok (.iconst 0, 1) := by decide +kernel
theorem dX3_readCourt_43 : decode cX3_readCourt 43 = .ok (.istore_n 2, 1) := by decide +kernel
theorem dX3_readCourt_44 : decode cX3_readCourt 44 = .ok (.iload_n 2, 1) := by decide +kernel
theorem dX3_readCourt_45 : decode cX3_readCourt 45 = .ok (.ifCond .eq 7, 3) := by decide +kernel
theorem dX3_readCourt_48 : decode cX3_readCourt 48 = .ok (.aload_n 1, 1) := by decide +kernel
theorem dX3_readCourt_49 : decode cX3_readCourt 49 = .ok (.invokevirtual 41, 3) := by decide +kernel
theorem dX3_readCourt_52 : decode cX3_readCourt 52 = .ok (.iload_n 2, 1) := by decide +kernel
theorem dX3_readCourt_53 : decode cX3_readCourt 53 = .ok (.ireturn, 1) := by decide +kernel
theorem eX3_readCourt {W : zWd} {B : Nat → Int} {N : Nat} {Q : Option Value → zWd → Prop} {X : zX} (hT : zTx W B N) (hBy : zByt W) (hq0 : ∀ e, sCourt B N = .inl e → ∀ W', zOffq W W' → zByt W' → W' 112 5 = e.1 → W' 112 6 = e.2 → Q (some (zI 0)) W') (hq1 : ∀ p a, sCourt B N = .inr (p, a) → zWf 0 a → ∀ W', zOffq W W' → W' 112 6 = -1 → zCR W' 8 (aMend a) → Q (some (zI 1)) W') : Ev MX3_readCourt 9 0 W [.ref 112, .ref 8] Q X := by
  refine ev_of (ls := [.ref 112, .ref 8, .null]) (by decide) rfl (fun _ => rfl) (fun _ => Nat.le_of_ble_eq_true rfl) (Or.inl rfl) ?_
  refine rr_aload_n (pc := 0) dX3_readCourt_0 rfl ?_
  refine rr_iconst (n := (-1)) dX3_readCourt_1 ?_
  refine rr_put (pc := 2) (ji := 6) dX3_readCourt_2 fX3_15 fp_3_6 zk_112 zr_112_6 rfl ?_
  have o0 : zOffr W (zup W 112 6 (-1)) := zOffr.rf.up
  have t0 : zTx (zup W 112 6 (-1)) B N := hT.off (zup_i (by decide)) (o0 113 (by decide))
  have e0 : zup W 112 6 (-1) 112 6 = -1 := zup_s
  generalize zup W 112 6 (-1) = W0 at o0 t0 e0 ⊢
  refine rr_aload_n (pc := 5) dX3_readCourt_5 rfl ?_
  refine rr_invN (M' := MX0_wipe) (k := 8) (As := []) (pc := 6) dX3_readCourt_6 lX3_22 kX0_wipe vX0_wipe zCt_8.k (by decide) rfl (by decide) (by decide) (Nat.le_of_ble_eq_true rfl) rfl (eX0_wipe zCt_8 (by rw [o0 14 (by decide)]; exact hBy) (fun W1 o1 c1 => ?_))
  have t1 : zTx W1 B N := t0.off (by rw [o1 112 (by omega)]) (o1 113 (by omega))
  have e1 : W1 112 6 = -1 := o1.rd6.trans e0
  refine rr_aload_n (pc := 9) dX3_readCourt_9 rfl ?_
  refine rr_iconst (n := 0) dX3_readCourt_10 ?_
  refine rr_inv0 (M' := MX3_moveTo) (k := 112) (As := [_]) (pc := 11) dX3_readCourt_11 lX3_27 kX3_moveTo vX3_moveTo zk_112 (by decide) rfl (by decide) (by decide) (Nat.le_of_ble_eq_true rfl) rfl (eX3_moveTo (p := 0) t1 (by omega) (fun W2 o2 f2 t2 k2 => ?_))
  have oA : zOffq W W2 := o0.q.tr (o1.q.tr o2.q)
  have e2 : W2 112 6 = -1 := (f2 6 (by decide) (by decide)).trans e1
  have hz : zRQ W2 B N (sCourt B N) (fun r W' => (r = some (zI 0) ∧ (∃ e, sCourt B N = .inl e ∧ zOffq W W' ∧ zByt W' ∧ W' 112 5 = e.1 ∧ W' 112 6 = e.2)) ∨ (r = some (zI 1) ∧ ∃ p a, sCourt B N = .inr (p, a) ∧ zOffq W W' ∧ W' 112 6 = -1 ∧ zCP W' 8 a)) :=
    ⟨fun e he W' o b h5 h6 => Or.inl ⟨rfl, e, he, oA.tr o, b, h5, h6⟩, fun g hg W' o _ h6 c => Or.inr ⟨rfl, g.1, g.2, hg, oA.tr o, h6.trans e2, c⟩⟩
  have hs := @sCourt_eq B N
  have hz := hz.from hs zOffq.rf rfl
  refine rr_aload_n (pc := 14) dX3_readCourt_14 rfl ?_
  refine rr_aload_n (pc := 15) dX3_readCourt_15 rfl ?_
  refine rr_inv0 (M' := MX3_readRows) (k := 112) (As := [_]) (pc := 16) dX3_readCourt_16 lX3_31 kX3_readRows vX3_readRows zk_112 (by decide) rfl (by decide) (by decide) (Nat.le_of_ble_eq_true rfl) rfl (eX3_readRows ⟨t2, k2⟩ (o2.cp c1) (hz.bnd (fun W3 hz => ?_) (fun p3 a3 W3 hr3 r3 c3 hq3 => ?_)))
  · refine rr_if_eq (pc := 19) (tgt := 42) dX3_readCourt_19 (by decide) (by unfold zR; omega) (fun h => ?_) (fun h => by omega)
    refine rr_iconst (n := 0) dX3_readCourt_42 ?_
    refine rr_istore_n (pc := 43) dX3_readCourt_43 (by decide) ?_
    refine rr_iload_n (pc := 44) dX3_readCourt_44 rfl ?_
    refine rr_if_eq (pc := 45) (tgt := 52) dX3_readCourt_45 (by decide) (by unfold zR; omega) (fun h => ?_) (fun h => by omega)
    refine rr_iload_n (pc := 52) dX3_readCourt_52 rfl ?_
    rcases hz with ⟨-, e, z1, z2, z3, z4, z5⟩ | ⟨z, -⟩
    rotate_left
    · cases z
    exact rr_reti (pc := 53) dX3_readCourt_53 rfl rfl rfl rfl (hq0 e z1 _ z2 z3 z4 z5)
  · refine rr_if_eq (pc := 19) (tgt := 42) dX3_readCourt_19 (by decide) (by unfold zR; omega) (fun h => by omega) (fun h => ?_)
    refine rr_aload_n (pc := 22) dX3_readCourt_22 rfl ?_
    refine rr_aload_n (pc := 23) dX3_readCourt_23 rfl ?_
    have i3 := sRowsC_in hr3
    refine rr_inv0 (M' := MX3_readDrift) (k := 112) (As := [_]) (pc := 24) dX3_readCourt_24 lX3_35 kX3_readDrift vX3_readDrift zk_112 (by decide) rfl (by decide) (by decide) (Nat.le_of_ble_eq_true rfl) rfl (eX3_readDrift r3 c3 (hq3.bnd (fun W4 hz => ?_) (fun p4 a4 W4 hr4 r4 c4 hq4 => ?_)))
    · refine rr_if_eq (pc := 27) (tgt := 42) dX3_readCourt_27 (by decide) (by unfold zR; omega) (fun h => ?_) (fun h => by omega)
      refine rr_iconst (n := 0) dX3_readCourt_42 ?_
      refine rr_istore_n (pc := 43) dX3_readCourt_43 (by decide) ?_
      refine rr_iload_n (pc := 44) dX3_readCourt_44 rfl ?_
      refine rr_if_eq (pc := 45) (tgt := 52) dX3_readCourt_45 (by decide) (by unfold zR; omega) (fun h => ?_) (fun h => by omega)
      refine rr_iload_n (pc := 52) dX3_readCourt_52 rfl ?_
      rcases hz with ⟨-, e, z1, z2, z3, z4, z5⟩ | ⟨z, -⟩
      rotate_left
      · cases z
      exact rr_reti (pc := 53) dX3_readCourt_53 rfl rfl rfl rfl (hq0 e z1 _ z2 z3 z4 z5)
    · refine rr_if_eq (pc := 27) (tgt := 42) dX3_readCourt_27 (by decide) (by unfold zR; omega) (fun h => by omega) (fun h => ?_)
      refine rr_aload_n (pc := 30) dX3_readCourt_30 rfl ?_
      refine rr_aload_n (pc := 31) dX3_readCourt_31 rfl ?_
      have i4 : 2 ≤ a4 0 ∧ a4 2 = 0 := by rw [sDrift_n hr4 (by decide), sDrift_n hr4 (by decide)]; exact i3
      refine rr_inv0 (M' := MX3_readPlayers) (k := 112) (As := [_]) (pc := 32) dX3_readCourt_32 lX3_38 kX3_readPlayers vX3_readPlayers zk_112 (by decide) rfl (by decide) (by decide) (Nat.le_of_ble_eq_true rfl) rfl (eX3_readPlayers r4 c4 i4.2 i4.1 (hq4.of (fun W5 hz => ?_) (fun W5 hz => ?_)))
      · refine rr_if_eq (pc := 35) (tgt := 42) dX3_readCourt_35 (by decide) (by unfold zR; omega) (fun h => ?_) (fun h => by omega)
        refine rr_iconst (n := 0) dX3_readCourt_42 ?_
        refine rr_istore_n (pc := 43) dX3_readCourt_43 (by decide) ?_
        refine rr_iload_n (pc := 44) dX3_readCourt_44 rfl ?_
        refine rr_if_eq (pc := 45) (tgt := 52) dX3_readCourt_45 (by decide) (by unfold zR; omega) (fun h => ?_) (fun h => by omega)
        refine rr_iload_n (pc := 52) dX3_readCourt_52 rfl ?_
        rcases hz with ⟨-, e, z1, z2, z3, z4, z5⟩ | ⟨z, -⟩
        rotate_left
        · cases z
        exact rr_reti (pc := 53) dX3_readCourt_53 rfl rfl rfl rfl (hq0 e z1 _ z2 z3 z4 z5)
      · refine rr_if_eq (pc := 35) (tgt := 42) dX3_readCourt_35 (by decide) (by unfold zR; omega) (fun h => by omega) (fun h => ?_)
        refine rr_iconst (n := 1) dX3_readCourt_38 ?_
        refine rr_goto (pc := 39) (tgt := 43) dX3_readCourt_39 (by decide) ?_
        refine rr_istore_n (pc := 43) dX3_readCourt_43 (by decide) ?_
        refine rr_iload_n (pc := 44) dX3_readCourt_44 rfl ?_
        refine rr_if_eq (pc := 45) (tgt := 52) dX3_readCourt_45 (by decide) (by unfold zR; omega) (fun h => by omega) (fun h => ?_)
        refine rr_aload_n (pc := 48) dX3_readCourt_48 rfl ?_
        rcases hz with ⟨z, -⟩ | ⟨-, p9, a9, z1, z2, z3, z4⟩
        · cases z
        have i9 : 2 ≤ a9 2 ∧ a9 0 = a4 0 := by
          have h9 := z1
          rw [hs, hr3] at h9
          have h9 : zBind (sDrift B N p3 a3) (fun p a => sPlayers B N 7 0 p a) = .inr (p9, a9) := h9
          rw [hr4] at h9
          exact sPlayers_in 7 0 _ _ _ _ (by rw [i4.2]; rfl) h9
        have f9 : zWf 0 a9 := z4.2.2.wf (by omega) i9.1
        refine rr_invN (M' := MX0_mendTargets) (k := 8) (As := []) (pc := 49) dX3_readCourt_49 lX3_41 kX0_mendTargets vX0_mendTargets zCt_8.k (by decide) rfl (by decide) (by decide) (Nat.le_of_ble_eq_true rfl) rfl (eX0_mendTargets zCt_8 z4.1 f9 (fun W6 o6 c6 => ?_))
        refine rr_iload_n (pc := 52) dX3_readCourt_52 rfl ?_
        exact rr_reti (pc := 53) dX3_readCourt_53 rfl rfl rfl rfl (hq1 p9 a9 z1 f9 _ (z2.tr o6.q) (o6.rd6.trans z3) c6)
