theorem dX6_checkPlayer_0 : decode cX6_checkPlayer 0 = .ok (.iload_n 1, 1) := by decide +kernel
theorem dX6_checkPlayer_1 : decode cX6_checkPlayer 1 = .ok (.ifCond .lt 14, 3) := by decide +kernel
theorem dX6_checkPlayer_4 : decode cX6_checkPlayer 4 = .ok (.iload_n 1, 1) := by decide +kernel
theorem dX6_checkPlayer_5 : decode cX6_checkPlayer 5 = .ok (.aload_n 0, 1) := by decide +kernel
theorem dX6_checkPlayer_6 : decode cX6_checkPlayer 6 = .ok (.getfield 12, 3) := by decide +kernel
theorem dX6_checkPlayer_9 : decode cX6_checkPlayer 9 = .ok (.getfield 106, 3) := by decide +kernel
theorem dX6_checkPlayer_12 : decode cX6_checkPlayer 12 = .ok (.if_icmp .lt 14, 3) := by decide +kernel
theorem dX6_checkPlayer_15 : decode cX6_checkPlayer 15 = .ok (.new 214, 3) := by decide +kernel
theorem dX6_checkPlayer_18 : decode cX6_checkPlayer 18 = .ok (.dup, 1) := by decide +kernel
theorem dX6_checkPlayer_19 : decode cX6_checkPlayer 19 = .ok (.ldc_w 296, 3) := by decide +kernel
theorem dX6_checkPlayer_22 : decode cX6_checkPlayer 22 = .ok (.invokespecial 218, 3) := by decide +kernel
theorem dX6_checkPlayer_25 : decode cX6_checkPlayer 25 = .ok (.athrow, 1) := by decide +kernel
theorem dX6_checkPlayer_26 : decode cX6_checkPlayer 26 = .ok (.return_, 1) := by decide +kernel
theorem eX6_checkPlayer {W : zWd} {p : Int} {Q : Option Value → zWd → Prop} {X : zX} (hz : zR p) (hn : zR (W 0 2)) (hq : 0 ≤ p → p < W 0 2 → Q none W) (hx : ¬ (0 ≤ p ∧ p < W 0 2) → X "java/lang/IndexOutOfBoundsException" W) : Ev MX6_checkPlayer 7 1 W [.ref 96, zI p] Q X := by
  refine ev_of (ls := [.ref 96, zI p]) (by decide) rfl (fun _ => rfl) (fun _ => Nat.le_of_ble_eq_true rfl) (Or.inr (by decide)) ?_
  refine rr_iload_n (pc := 0) dX6_checkPlayer_0 rfl ?_
  refine rr_if_lt (pc := 1) (tgt := 15) dX6_checkPlayer_1 (by decide) hz (fun h1 => ?_) (fun h1 => ?_)
  · exact rr_thr (by decide) tX6_checkPlayer_15 (hx (by omega))
  · refine rr_iload_n (pc := 4) dX6_checkPlayer_4 rfl ?_
    refine rr_aload_n (pc := 5) dX6_checkPlayer_5 rfl ?_
    refine rr_getR (pc := 6) dX6_checkPlayer_6 fX6_12 zk_96 zr_96_0 ?_
    refine rr_getI (pc := 9) (ji := 2) dX6_checkPlayer_9 fX6_106 zCt_0.k zCt_0.i2 rfl ?_
    refine rr_icmp_lt (pc := 12) (tgt := 26) dX6_checkPlayer_12 (by decide) hz hn (fun h12 => ?_) (fun h12 => ?_)
    · exact rr_retv (pc := 26) dX6_checkPlayer_26 rfl rfl (hq (by omega) (by omega))
    · exact rr_thr (by decide) tX6_checkPlayer_15 (hx (by omega))
theorem dX6_checkSquare_0 : decode cX6_checkSquare 0 = .ok (.iload_n 1, 1) := by decide +kernel
theorem dX6_checkSquare_1 : decode cX6_checkSquare 1 = .ok (.iconst 1, 1) := by decide +kernel
theorem dX6_checkSquare_2 : decode cX6_checkSquare 2 = .ok (.if_icmp .lt 14, 3) := by decide +kernel
theorem dX6_checkSquare_5 : decode cX6_checkSquare 5 = .ok (.iload_n 1, 1) := by decide +kernel
theorem dX6_checkSquare_6 : decode cX6_checkSquare 6 = .ok (.aload_n 0, 1) := by decide +kernel
theorem dX6_checkSquare_7 : decode cX6_checkSquare 7 = .ok (.getfield 12, 3) := by decide +kernel
theorem dX6_checkSquare_10 : decode cX6_checkSquare 10 = .ok (.getfield 97, 3) := by decide +kernel
theorem dX6_checkSquare_13 : decode cX6_checkSquare 13 = .ok (.if_icmp .le 14, 3) := by decide +kernel
theorem dX6_checkSquare_16 : decode cX6_checkSquare 16 = .ok (.new 214, 3) := by decide +kernel
theorem dX6_checkSquare_19 : decode cX6_checkSquare 19 = .ok (.dup, 1) := by decide +kernel
theorem dX6_checkSquare_20 : decode cX6_checkSquare 20 = .ok (.ldc_w 298, 3) := by decide +kernel
theorem dX6_checkSquare_23 : decode cX6_checkSquare 23 = .ok (.invokespecial 218, 3) := by decide +kernel
theorem dX6_checkSquare_26 : decode cX6_checkSquare 26 = .ok (.athrow, 1) := by decide +kernel
theorem dX6_checkSquare_27 : decode cX6_checkSquare 27 = .ok (.return_, 1) := by decide +kernel
theorem eX6_checkSquare {W : zWd} {s : Int} {Q : Option Value → zWd → Prop} {X : zX} (hz : zR s) (hn : zR (W 0 1)) (hq : 1 ≤ s → s ≤ W 0 1 → Q none W) (hx : ¬ (1 ≤ s ∧ s ≤ W 0 1) → X "java/lang/IndexOutOfBoundsException" W) : Ev MX6_checkSquare 7 1 W [.ref 96, zI s] Q X := by
  refine ev_of (ls := [.ref 96, zI s]) (by decide) rfl (fun _ => rfl) (fun _ => Nat.le_of_ble_eq_true rfl) (Or.inr (by decide)) ?_
  refine rr_iload_n (pc := 0) dX6_checkSquare_0 rfl ?_
  refine rr_iconst (n := 1) dX6_checkSquare_1 ?_
  refine rr_icmp_lt (pc := 2) (tgt := 16) dX6_checkSquare_2 (by decide) hz (by unfold zR; omega) (fun h2 => ?_) (fun h2 => ?_)
  · exact rr_thr (by decide) tX6_checkSquare_16 (hx (by omega))
  · refine rr_iload_n (pc := 5) dX6_checkSquare_5 rfl ?_
    refine rr_aload_n (pc := 6) dX6_checkSquare_6 rfl ?_
    refine rr_getR (pc := 7) dX6_checkSquare_7 fX6_12 zk_96 zr_96_0 ?_
    refine rr_getI (pc := 10) (ji := 1) dX6_checkSquare_10 fX6_97 zCt_0.k zCt_0.i1 rfl ?_
    refine rr_icmp_le (pc := 13) (tgt := 27) dX6_checkSquare_13 (by decide) hz hn (fun h13 => ?_) (fun h13 => ?_)
    · exact rr_retv (pc := 27) dX6_checkSquare_27 rfl rfl (hq (by omega) (by omega))
    · exact rr_thr (by decide) tX6_checkSquare_16 (hx (by omega))
theorem dX6_checkRow_0 : decode cX6_checkRow 0 = .ok (.iload_n 1, 1) := by decide +kernel
theorem dX6_checkRow_1 : decode cX6_checkRow 1 = .ok (.ifCond .lt 14, 3) := by decide +kernel
theorem dX6_checkRow_4 : decode cX6_checkRow 4 = .ok (.iload_n 1, 1) := by decide +kernel
theorem dX6_checkRow_5 : decode cX6_checkRow 5 = .ok (.aload_n 0, 1) := by decide +kernel
theorem dX6_checkRow_6 : decode cX6_checkRow 6 = .ok (.getfield 12, 3) := by decide +kernel
theorem dX6_checkRow_9 : decode cX6_checkRow 9 = .ok (.getfield 103, 3) := by decide +kernel
theorem dX6_checkRow_12 : decode cX6_checkRow 12 = .ok (.if_icmp .lt 14, 3) := by decide +kernel
theorem dX6_checkRow_15 : decode cX6_checkRow 15 = .ok (.new 214, 3) := by decide +kernel
theorem dX6_checkRow_18 : decode cX6_checkRow 18 = .ok (.dup, 1) := by decide +kernel
theorem dX6_checkRow_19 : decode cX6_checkRow 19 = .ok (.ldc_w 300, 3) := by decide +kernel
theorem dX6_checkRow_22 : decode cX6_checkRow 22 = .ok (.invokespecial 218, 3) := by decide +kernel
theorem dX6_checkRow_25 : decode cX6_checkRow 25 = .ok (.athrow, 1) := by decide +kernel
theorem dX6_checkRow_26 : decode cX6_checkRow 26 = .ok (.return_, 1) := by decide +kernel
theorem eX6_checkRow {W : zWd} {r : Int} {Q : Option Value → zWd → Prop} {X : zX} (hz : zR r) (hn : zR (W 0 0)) (hq : 0 ≤ r → r < W 0 0 → Q none W) (hx : ¬ (0 ≤ r ∧ r < W 0 0) → X "java/lang/IndexOutOfBoundsException" W) : Ev MX6_checkRow 7 1 W [.ref 96, zI r] Q X := by
  refine ev_of (ls := [.ref 96, zI r]) (by decide) rfl (fun _ => rfl) (fun _ => Nat.le_of_ble_eq_true rfl) (Or.inr (by decide)) ?_
  refine rr_iload_n (pc := 0) dX6_checkRow_0 rfl ?_
  refine rr_if_lt (pc := 1) (tgt := 15) dX6_checkRow_1 (by decide) hz (fun h1 => ?_) (fun h1 => ?_)
  · exact rr_thr (by decide) tX6_checkRow_15 (hx (by omega))
  · refine rr_iload_n (pc := 4) dX6_checkRow_4 rfl ?_
    refine rr_aload_n (pc := 5) dX6_checkRow_5 rfl ?_
    refine rr_getR (pc := 6) dX6_checkRow_6 fX6_12 zk_96 zr_96_0 ?_
    refine rr_getI (pc := 9) (ji := 0) dX6_checkRow_9 fX6_103 zCt_0.k zCt_0.i0 rfl ?_
    refine rr_icmp_lt (pc := 12) (tgt := 26) dX6_checkRow_12 (by decide) hz hn (fun h12 => ?_) (fun h12 => ?_)
    · exact rr_retv (pc := 26) dX6_checkRow_26 rfl rfl (hq (by omega) (by omega))
    · exact rr_thr (by decide) tX6_checkRow_15 (hx (by omega))
theorem dX6_checkSlot_0 : decode cX6_checkSlot 0 = .ok (.iload_n 0, 1) := by decide +kernel
theorem dX6_checkSlot_1 : decode cX6_checkSlot 1 = .ok (.ifCond .lt 8, 3) := by decide +kernel
theorem dX6_checkSlot_4 : decode cX6_checkSlot 4 = .ok (.iload_n 0, 1) := by decide +kernel
theorem dX6_checkSlot_5 : decode cX6_checkSlot 5 = .ok (.iconst 2, 1) := by decide +kernel
theorem dX6_checkSlot_6 : decode cX6_checkSlot 6 = .ok (.if_icmp .lt 14, 3) := by decide +kernel
theorem dX6_checkSlot_9 : decode cX6_checkSlot 9 = .ok (.new 214, 3) := by decide +kernel
theorem dX6_checkSlot_12 : decode cX6_checkSlot 12 = .ok (.dup, 1) := by decide +kernel
theorem dX6_checkSlot_13 : decode cX6_checkSlot 13 = .ok (.ldc_w 302, 3) := by decide +kernel
theorem dX6_checkSlot_16 : decode cX6_checkSlot 16 = .ok (.invokespecial 218, 3) := by decide +kernel
theorem dX6_checkSlot_19 : decode cX6_checkSlot 19 = .ok (.athrow, 1) := by decide +kernel
theorem dX6_checkSlot_20 : decode cX6_checkSlot 20 = .ok (.return_, 1) := by decide +kernel
theorem eX6_checkSlot {W : zWd} {r : Int} {Q : Option Value → zWd → Prop} {X : zX} (hz : zR r) (hq : 0 ≤ r → r < 2 → Q none W) (hx : ¬ (0 ≤ r ∧ r < 2) → X "java/lang/IndexOutOfBoundsException" W) : Ev MX6_checkSlot 7 1 W [zI r] Q X := by
  refine ev_of (ls := [zI r]) (by decide) rfl (fun _ => rfl) (fun _ => Nat.le_of_ble_eq_true rfl) (Or.inr (by decide)) ?_
  refine rr_iload_n (pc := 0) dX6_checkSlot_0 rfl ?_
  refine rr_if_lt (pc := 1) (tgt := 9) dX6_checkSlot_1 (by decide) hz (fun h1 => ?_) (fun h1 => ?_)
  · exact rr_thr (by decide) tX6_checkSlot_9 (hx (by omega))
  · refine rr_iload_n (pc := 4) dX6_checkSlot_4 rfl ?_
    refine rr_iconst (n := 2) dX6_checkSlot_5 ?_
    refine rr_icmp_lt (pc := 6) (tgt := 20) dX6_checkSlot_6 (by decide) hz (by unfold zR; omega) (fun h6 => ?_) (fun h6 => ?_)
    · exact rr_retv (pc := 20) dX6_checkSlot_20 rfl rfl (hq (by omega) (by omega))
    · exact rr_thr (by decide) tX6_checkSlot_9 (hx (by omega))
theorem dX6_checkThrow_0 : decode cX6_checkThrow 0 = .ok (.iload_n 0, 1) := by decide +kernel
theorem dX6_checkThrow_1 : decode cX6_checkThrow 1 = .ok (.ifCond .lt 19, 3) := by decide +kernel
theorem dX6_checkThrow_4 : decode cX6_checkThrow 4 = .ok (.iload_n 0, 1) := by decide +kernel
theorem dX6_checkThrow_5 : decode cX6_checkThrow 5 = .ok (.sipush 199, 3) := by decide +kernel
theorem dX6_checkThrow_8 : decode cX6_checkThrow 8 = .ok (.if_icmp .gt 12, 3) := by decide +kernel
theorem dX6_checkThrow_11 : decode cX6_checkThrow 11 = .ok (.iload_n 1, 1) := by decide +kernel
theorem dX6_checkThrow_12 : decode cX6_checkThrow 12 = .ok (.ifCond .lt 8, 3) := by decide +kernel
theorem dX6_checkThrow_15 : decode cX6_checkThrow 15 = .ok (.iload_n 1, 1) := by decide +kernel
theorem dX6_checkThrow_16 : decode cX6_checkThrow 16 = .ok (.iconst 1, 1) := by decide +kernel
theorem dX6_checkThrow_17 : decode cX6_checkThrow 17 = .ok (.if_icmp .le 14, 3) := by decide +kernel
theorem dX6_checkThrow_20 : decode cX6_checkThrow 20 = .ok (.new 134, 3) := by decide +kernel
theorem dX6_checkThrow_23 : decode cX6_checkThrow 23 = .ok (.dup, 1) := by decide +kernel
theorem dX6_checkThrow_24 : decode cX6_checkThrow 24 = .ok (.ldc_w 304, 3) := by decide +kernel
theorem dX6_checkThrow_27 : decode cX6_checkThrow 27 = .ok (.invokespecial 138, 3) := by decide +kernel
theorem dX6_checkThrow_30 : decode cX6_checkThrow 30 = .ok (.athrow, 1) := by decide +kernel
theorem dX6_checkThrow_31 : decode cX6_checkThrow 31 = .ok (.return_, 1) := by decide +kernel
theorem eX6_checkThrow {W : zWd} {r s : Int} {Q : Option Value → zWd → Prop} {X : zX} (hz : zR r) (hz2 : zR s) (hq : 0 ≤ r → r ≤ 199 → 0 ≤ s → s ≤ 1 → Q none W) (hx : ¬ (0 ≤ r ∧ r ≤ 199 ∧ 0 ≤ s ∧ s ≤ 1) → X "java/lang/IllegalArgumentException" W) : Ev MX6_checkThrow 7 1 W [zI r, zI s] Q X := by
  refine ev_of (ls := [zI r, zI s]) (by decide) rfl (fun _ => rfl) (fun _ => Nat.le_of_ble_eq_true rfl) (Or.inr (by decide)) ?_
  refine rr_iload_n (pc := 0) dX6_checkThrow_0 rfl ?_
  refine rr_if_lt (pc := 1) (tgt := 20) dX6_checkThrow_1 (by decide) hz (fun h1 => ?_) (fun h1 => ?_)
  · exact rr_thr (by decide) tX6_checkThrow_20 (hx (by omega))
  · refine rr_iload_n (pc := 4) dX6_checkThrow_4 rfl ?_
    refine rr_sipush (n := (199)) dX6_checkThrow_5 ?_
    refine rr_icmp_gt (pc := 8) (tgt := 20) dX6_checkThrow_8 (by decide) hz (by unfold zR; omega) (fun h8 => ?_) (fun h8 => ?_)
    · exact rr_thr (by decide) tX6_checkThrow_20 (hx (by omega))
    · refine rr_iload_n (pc := 11) dX6_checkThrow_11 rfl ?_
      refine rr_if_lt (pc := 12) (tgt := 20) dX6_checkThrow_12 (by decide) hz2 (fun h12 => ?_) (fun h12 => ?_)
      · exact rr_thr (by decide) tX6_checkThrow_20 (hx (by omega))
      · refine rr_iload_n (pc := 15) dX6_checkThrow_15 rfl ?_
        refine rr_iconst (n := 1) dX6_checkThrow_16 ?_
        refine rr_icmp_le (pc := 17) (tgt := 31) dX6_checkThrow_17 (by decide) hz2 (by unfold zR; omega) (fun h17 => ?_) (fun h17 => ?_)
        · exact rr_retv (pc := 31) dX6_checkThrow_31 rfl rfl (hq (by omega) (by omega) (by omega) (by omega))
        · exact rr_thr (by decide) tX6_checkThrow_20 (hx (by omega))
/-- what 'count' answers -/
def vCount (a : Int → Int) (w : Int) : Int := if w = 6 then a 1 - (aNown a (-1) : Nat) else if w = 7 then (zCnt (fun q : Nat => decide (aP a q 5 ≠ 0)) (a 2).toNat : Nat) else if w = 8 then a 6 else if w = 9 then a 7 else if w = 10 then (aRich a (a 2).toNat).1 else a w
theorem dX6_count_0 : decode cX6_count 0 = .ok (.iload_n 1, 1) := by decide +kernel
theorem dX6_count_1 : decode cX6_count 1 = .ok (.tableswitch 147 0 10 #[59, 67, 75, 83, 91, 99, 107, 115, 123, 131, 139], 59) := by decide +kernel
theorem dX6_count_60 : decode cX6_count 60 = .ok (.aload_n 0, 1) := by decide +kernel
theorem dX6_count_61 : decode cX6_count 61 = .ok (.getfield 12, 3) := by decide +kernel
theorem dX6_count_64 : decode cX6_count 64 = .ok (.getfield 103, 3) := by decide +kernel
theorem dX6_count_67 : decode cX6_count 67 = .ok (.ireturn, 1) := by decide +kernel
theorem dX6_count_68 : decode cX6_count 68 = .ok (.aload_n 0, 1) := by decide +kernel
theorem dX6_count_69 : decode cX6_count 69 = .ok (.getfield 12, 3) := by decide +kernel
theorem dX6_count_72 : decode cX6_count 72 = .ok (.getfield 97, 3) := by decide +kernel
theorem dX6_count_75 : decode cX6_count 75 = .ok (.ireturn, 1) := by decide +kernel
theorem dX6_count_76 : decode cX6_count 76 = .ok (.aload_n 0, 1) := by decide +kernel
theorem dX6_count_77 : decode cX6_count 77 = .ok (.getfield 12, 3) := by decide +kernel
theorem dX6_count_80 : decode cX6_count 80 = .ok (.getfield 106, 3) := by decide +kernel
theorem dX6_count_83 : decode cX6_count 83 = .ok (.ireturn, 1) := by decide +kernel
theorem dX6_count_84 : decode cX6_count 84 = .ok (.aload_n 0, 1) := by decide +kernel
theorem dX6_count_85 : decode cX6_count 85 = .ok (.getfield 12, 3) := by decide +kernel
theorem dX6_count_88 : decode cX6_count 88 = .ok (.getfield 109, 3) := by decide +kernel
theorem dX6_count_91 : decode cX6_count 91 = .ok (.ireturn, 1) := by decide +kernel
theorem dX6_count_92 : decode cX6_count 92 = .ok (.aload_n 0, 1) := by decide +kernel
theorem dX6_count_93 : decode cX6_count 93 = .ok (.getfield 12, 3) := by decide +kernel
theorem dX6_count_96 : decode cX6_count 96 = .ok (.getfield 112, 3) := by decide +kernel
theorem dX6_count_99 : decode cX6_count 99 = .ok (.ireturn, 1) := by decide +kernel
theorem dX6_count_100 : decode cX6_count 100 = .ok (.aload_n 0, 1) := by decide +kernel
theorem dX6_count_101 : decode cX6_count 101 = .ok (.getfield 12, 3) := by decide +kernel
theorem dX6_count_104 : decode cX6_count 104 = .ok (.getfield 115, 3) := by decide +kernel
theorem dX6_count_107 : decode cX6_count 107 = .ok (.ireturn, 1) := by decide +kernel
theorem dX6_count_108 : decode cX6_count 108 = .ok (.aload_n 0, 1) := by decide +kernel
theorem dX6_count_109 : decode cX6_count 109 = .ok (.getfield 12, 3) := by decide +kernel
theorem dX6_count_112 : decode cX6_count 112 = .ok (.invokevirtual 118, 3) := by decide +kernel
theorem dX6_count_115 : decode cX6_count 115 = .ok (.ireturn, 1) := by decide +kernel
theorem dX6_count_116 : decode cX6_count 116 = .ok (.aload_n 0, 1) := by decide +kernel
theorem dX6_count_117 : decode cX6_count 117 = .ok (.getfield 12, 3) := by decide +kernel
theorem dX6_count_120 : decode cX6_count 120 = .ok (.invokevirtual 122, 3) := by decide +kernel
theorem dX6_count_123 : decode cX6_count 123 = .ok (.ireturn, 1) := by decide +kernel
theorem dX6_count_124 : decode cX6_count 124 = .ok (.aload_n 0, 1) := by decide +kernel
theorem dX6_count_125 : decode cX6_count 125 = .ok (.getfield 12, 3) := by decide +kernel
theorem dX6_count_128 : decode cX6_count 128 = .ok (.getfield 125, 3) := by decide +kernel
theorem dX6_count_131 : decode cX6_count 131 = .ok (.ireturn, 1) := by decide +kernel
theorem dX6_count_132 : decode cX6_count 132 = .ok (.aload_n 0, 1) := by decide +kernel
theorem dX6_count_133 : decode cX6_count 133 = .ok (.getfield 12, 3) := by decide +kernel
theorem dX6_count_136 : decode cX6_count 136 = .ok (.getfield 128, 3) := by decide +kernel
theorem dX6_count_139 : decode cX6_count 139 = .ok (.ireturn, 1) := by decide +kernel
theorem dX6_count_140 : decode cX6_count 140 = .ok (.aload_n 0, 1) := by decide +kernel
theorem dX6_count_141 : decode cX6_count 141 = .ok (.getfield 12, 3) := by decide +kernel
theorem dX6_count_144 : decode cX6_count 144 = .ok (.invokevirtual 131, 3) := by decide +kernel
theorem dX6_count_147 : decode cX6_count 147 = .ok (.ireturn, 1) := by decide +kernel
theorem dX6_count_148 : decode cX6_count 148 = .ok (.new 134, 3) := by decide +kernel
theorem dX6_count_151 : decode cX6_count 151 = .ok (.dup, 1) := by decide +kernel
theorem dX6_count_152 : decode cX6_count 152 = .ok (.ldc 136, 2) := by decide +kernel
theorem dX6_count_154 : decode cX6_count 154 = .ok (.invokespecial 138, 3) := by decide +kernel
theorem dX6_count_157 : decode cX6_count 157 = .ok (.athrow, 1) := by decide +kernel
theorem eX6_count {W : zWd} {a : Int → Int} {T : Int} {w : Int} {Q : Option Value → zWd → Prop} {X : zX} (hR : zCR W 0 a) (hw : zWf T a) (hz : zR w) (hq : 0 ≤ w → w ≤ 10 → Q (some (zI (vCount a w))) W) (hx : ¬ (0 ≤ w ∧ w ≤ 10) → X "java/lang/IllegalArgumentException" W) : Ev MX6_count 7 1 W [.ref 96, zI w] Q X := by
  refine ev_of (ls := [.ref 96, zI w]) (by decide) rfl (fun _ => rfl) (fun _ => Nat.le_of_ble_eq_true rfl) (Or.inr (by decide)) ?_
  obtain ⟨r0, r1, r2, r3, r4, r5, r6, r7, rF, rS, rP, rB⟩ := id hR
  obtain ⟨w0, w0', wW, w1, w2, w2', w3, w3', w4, w4', w5, w5', w6, w6', w7, w7', wS, wP, wT⟩ := id hw
  have wq := zWf.sq hw
  refine rr_iload_n (pc := 0) dX6_count_0 rfl ?_
  by_cases hsw : 0 ≤ w ∧ w ≤ 10
  · have hsv : w = 0 ∨ w = 1 ∨ w = 2 ∨ w = 3 ∨ w = 4 ∨ w = 5 ∨ w = 6 ∨ w = 7 ∨ w = 8 ∨ w = 9 ∨ w = 10 := by omega
    rcases hsv with rfl | rfl | rfl | rfl | rfl | rfl | rfl | rfl | rfl | rfl | rfl
    · refine rr_tabI (pc := 1) (tgt := 60) dX6_count_1 (by unfold zR; omega) (by decide) (by decide) rfl (by decide) ?_
      refine rr_aload_n (pc := 60) dX6_count_60 rfl ?_
      refine rr_getR (pc := 61) dX6_count_61 fX6_12 zk_96 zr_96_0 ?_
      refine rr_getI (pc := 64) (ji := 0) dX6_count_64 fX6_103 zCt_0.k zCt_0.i0 rfl ?_
      exact rr_reti (pc := 67) dX6_count_67 rfl rfl r0 rfl (hq (by omega) (by omega))
    · refine rr_tabI (pc := 1) (tgt := 68) dX6_count_1 (by unfold zR; omega) (by decide) (by decide) rfl (by decide) ?_
      refine rr_aload_n (pc := 68) dX6_count_68 rfl ?_
      refine rr_getR (pc := 69) dX6_count_69 fX6_12 zk_96 zr_96_0 ?_
      refine rr_getI (pc := 72) (ji := 1) dX6_count_72 fX6_97 zCt_0.k zCt_0.i1 rfl ?_
      exact rr_reti (pc := 75) dX6_count_75 rfl rfl r1 rfl (hq (by omega) (by omega))
    · refine rr_tabI (pc := 1) (tgt := 76) dX6_count_1 (by unfold zR; omega) (by decide) (by decide) rfl (by decide) ?_
      refine rr_aload_n (pc := 76) dX6_count_76 rfl ?_
      refine rr_getR (pc := 77) dX6_count_77 fX6_12 zk_96 zr_96_0 ?_
      refine rr_getI (pc := 80) (ji := 2) dX6_count_80 fX6_106 zCt_0.k zCt_0.i2 rfl ?_
      exact rr_reti (pc := 83) dX6_count_83 rfl rfl r2 rfl (hq (by omega) (by omega))
    · refine rr_tabI (pc := 1) (tgt := 84) dX6_count_1 (by unfold zR; omega) (by decide) (by decide) rfl (by decide) ?_
      refine rr_aload_n (pc := 84) dX6_count_84 rfl ?_
      refine rr_getR (pc := 85) dX6_count_85 fX6_12 zk_96 zr_96_0 ?_
      refine rr_getI (pc := 88) (ji := 3) dX6_count_88 fX6_109 zCt_0.k zCt_0.i3 rfl ?_
      exact rr_reti (pc := 91) dX6_count_91 rfl rfl r3 rfl (hq (by omega) (by omega))
    · refine rr_tabI (pc := 1) (tgt := 92) dX6_count_1 (by unfold zR; omega) (by decide) (by decide) rfl (by decide) ?_
      refine rr_aload_n (pc := 92) dX6_count_92 rfl ?_
      refine rr_getR (pc := 93) dX6_count_93 fX6_12 zk_96 zr_96_0 ?_
      refine rr_getI (pc := 96) (ji := 4) dX6_count_96 fX6_112 zCt_0.k zCt_0.i4 rfl ?_
      exact rr_reti (pc := 99) dX6_count_99 rfl rfl r4 rfl (hq (by omega) (by omega))
    · refine rr_tabI (pc := 1) (tgt := 100) dX6_count_1 (by unfold zR; omega) (by decide) (by decide) rfl (by decide) ?_
      refine rr_aload_n (pc := 100) dX6_count_100 rfl ?_
      refine rr_getR (pc := 101) dX6_count_101 fX6_12 zk_96 zr_96_0 ?_
      refine rr_getI (pc := 104) (ji := 5) dX6_count_104 fX6_115 zCt_0.k zCt_0.i5 rfl ?_
      exact rr_reti (pc := 107) dX6_count_107 rfl rfl r5 rfl (hq (by omega) (by omega))
    · refine rr_tabI (pc := 1) (tgt := 108) dX6_count_1 (by unfold zR; omega) (by decide) (by decide) rfl (by decide) ?_
      refine rr_aload_n (pc := 108) dX6_count_108 rfl ?_
      refine rr_getR (pc := 109) dX6_count_109 fX6_12 zk_96 zr_96_0 ?_
      refine rr_invN (M' := MX0_ownedSquares) (k := 0) (As := []) (pc := 112) dX6_count_112 lX6_118 kX0_ownedSquares vX0_ownedSquares zCt_0.k (by decide) rfl (by decide) (by decide) (Nat.le_of_ble_eq_true rfl) rfl (eX0_ownedSquares zCt_0 hR hw ?_)
      exact rr_reti (pc := 115) dX6_count_115 rfl rfl rfl rfl (hq (by omega) (by omega))
    · refine rr_tabI (pc := 1) (tgt := 116) dX6_count_1 (by unfold zR; omega) (by decide) (by decide) rfl (by decide) ?_
      refine rr_aload_n (pc := 116) dX6_count_116 rfl ?_
      refine rr_getR (pc := 117) dX6_count_117 fX6_12 zk_96 zr_96_0 ?_
      refine rr_invN (M' := MX0_lyingMarkers) (k := 0) (As := []) (pc := 120) dX6_count_120 lX6_122 kX0_lyingMarkers vX0_lyingMarkers zCt_0.k (by decide) rfl (by decide) (by decide) (Nat.le_of_ble_eq_true rfl) rfl (eX0_lyingMarkers zCt_0 hR hw ?_)
      exact rr_reti (pc := 123) dX6_count_123 rfl rfl rfl rfl (hq (by omega) (by omega))
    · refine rr_tabI (pc := 1) (tgt := 124) dX6_count_1 (by unfold zR; omega) (by decide) (by decide) rfl (by decide) ?_
      refine rr_aload_n (pc := 124) dX6_count_124 rfl ?_
      refine rr_getR (pc := 125) dX6_count_125 fX6_12 zk_96 zr_96_0 ?_
      refine rr_getI (pc := 128) (ji := 6) dX6_count_128 fX6_125 zCt_0.k zCt_0.i6 rfl ?_
      exact rr_reti (pc := 131) dX6_count_131 rfl rfl r6 rfl (hq (by omega) (by omega))
    · refine rr_tabI (pc := 1) (tgt := 132) dX6_count_1 (by unfold zR; omega) (by decide) (by decide) rfl (by decide) ?_
      refine rr_aload_n (pc := 132) dX6_count_132 rfl ?_
      refine rr_getR (pc := 133) dX6_count_133 fX6_12 zk_96 zr_96_0 ?_
      refine rr_getI (pc := 136) (ji := 7) dX6_count_136 fX6_128 zCt_0.k zCt_0.i7 rfl ?_
      exact rr_reti (pc := 139) dX6_count_139 rfl rfl r7 rfl (hq (by omega) (by omega))
    · refine rr_tabI (pc := 1) (tgt := 140) dX6_count_1 (by unfold zR; omega) (by decide) (by decide) rfl (by decide) ?_
      refine rr_aload_n (pc := 140) dX6_count_140 rfl ?_
      refine rr_getR (pc := 141) dX6_count_141 fX6_12 zk_96 zr_96_0 ?_
      refine rr_invN (M' := MX0_richest) (k := 0) (As := []) (pc := 144) dX6_count_144 lX6_131 kX0_richest vX0_richest zCt_0.k (by decide) rfl (by decide) (by decide) (Nat.le_of_ble_eq_true rfl) rfl (eX0_richest zCt_0 hR hw ?_)
      exact rr_reti (pc := 147) dX6_count_147 rfl rfl rfl rfl (hq (by omega) (by omega))
  · refine rr_tabO (pc := 1) (tgt := 148) dX6_count_1 hz (by omega) (by decide) ?_
    exact rr_thr (by decide) tX6_count_148 (hx hsw)
def vPl (a : Int → Int) (p w : Int) : Int := if w = 6 then (zSet (fun s => decide (aO a s = p)) (a 1).toNat : Nat) else if w = 5 then (if aP a p 5 = 0 then -1 else aP a p 5) else if w < 5 then aP a p w else aP a p (w - 1)
theorem vPl_at {W : zWd} {c : Nat} {a : Int → Int} {p w : Int} (h : zCRP W c a p) (h0 : 0 ≤ w) (h9 : w < 10) (h6 : w ≠ 6) : W (c + 5) (p * 10 + w) = vPl a p w := by
  obtain ⟨h1, h2, h3, h4, h5, h6', h7, h8, h9', -⟩ := h
  unfold vPl
  rw [if_neg h6]
  have hw : w = 0 ∨ w = 1 ∨ w = 2 ∨ w = 3 ∨ w = 4 ∨ w = 5 ∨ w = 7 ∨ w = 8 ∨ w = 9 := by omega
  rcases hw with rfl | rfl | rfl | rfl | rfl | rfl | rfl | rfl | rfl
  · exact h1
  · exact h2
  · exact h3
  · exact h4
  · exact h5
  · exact h6'
  · exact h7
  · exact h8
  · exact h9'
theorem dX6_player_0 : decode cX6_player 0 = .ok (.aload_n 0, 1) := by decide +kernel
theorem dX6_player_1 : decode cX6_player 1 = .ok (.iload_n 1, 1) := by decide +kernel
theorem dX6_player_2 : decode cX6_player 2 = .ok (.invokevirtual 139, 3) := by decide +kernel
theorem dX6_player_5 : decode cX6_player 5 = .ok (.iload_n 2, 1) := by decide +kernel
theorem dX6_player_6 : decode cX6_player 6 = .ok (.ifCond .lt 9, 3) := by decide +kernel
theorem dX6_player_9 : decode cX6_player 9 = .ok (.iload_n 2, 1) := by decide +kernel
theorem dX6_player_10 : decode cX6_player 10 = .ok (.bipush 10, 2) := by decide +kernel
theorem dX6_player_12 : decode cX6_player 12 = .ok (.if_icmp .lt 13, 3) := by decide +kernel
theorem dX6_player_15 : decode cX6_player 15 = .ok (.new 134, 3) := by decide +kernel
theorem dX6_player_18 : decode cX6_player 18 = .ok (.dup, 1) := by decide +kernel
theorem dX6_player_19 : decode cX6_player 19 = .ok (.ldc 142, 2) := by decide +kernel
theorem dX6_player_21 : decode cX6_player 21 = .ok (.invokespecial 138, 3) := by decide +kernel
theorem dX6_player_24 : decode cX6_player 24 = .ok (.athrow, 1) := by decide +kernel
theorem dX6_player_25 : decode cX6_player 25 = .ok (.iload_n 2, 1) := by decide +kernel
theorem dX6_player_26 : decode cX6_player 26 = .ok (.bipush 6, 2) := by decide +kernel
theorem dX6_player_28 : decode cX6_player 28 = .ok (.if_icmp .ne 14, 3) := by decide +kernel
theorem dX6_player_31 : decode cX6_player 31 = .ok (.aload_n 0, 1) := by decide +kernel
theorem dX6_player_32 : decode cX6_player 32 = .ok (.getfield 12, 3) := by decide +kernel
theorem dX6_player_35 : decode cX6_player 35 = .ok (.iload_n 1, 1) := by decide +kernel
theorem dX6_player_36 : decode cX6_player 36 = .ok (.invokevirtual 144, 3) := by decide +kernel
theorem dX6_player_39 : decode cX6_player 39 = .ok (.goto 12, 3) := by decide +kernel
theorem dX6_player_42 : decode cX6_player 42 = .ok (.aload_n 0, 1) := by decide +kernel
theorem dX6_player_43 : decode cX6_player 43 = .ok (.getfield 12, 3) := by decide +kernel
theorem dX6_player_46 : decode cX6_player 46 = .ok (.iload_n 1, 1) := by decide +kernel
theorem dX6_player_47 : decode cX6_player 47 = .ok (.iload_n 2, 1) := by decide +kernel
theorem dX6_player_48 : decode cX6_player 48 = .ok (.invokevirtual 147, 3) := by decide +kernel
theorem dX6_player_51 : decode cX6_player 51 = .ok (.ireturn, 1) := by decide +kernel
theorem eX6_player {W : zWd} {a : Int → Int} {T : Int} {p w : Int} {Q : Option Value → zWd → Prop} {X : zX} (hR : zCR W 0 a) (hw : zWf T a) (hz : zR p) (hz2 : zR w) (hq : 0 ≤ p → p < a 2 → 0 ≤ w → w < 10 → Q (some (zI (vPl a p w))) W) (hx : ¬ (0 ≤ p ∧ p < a 2) → X "java/lang/IndexOutOfBoundsException" W) (hx2 : 0 ≤ p → p < a 2 → ¬ (0 ≤ w ∧ w < 10) → X "java/lang/IllegalArgumentException" W) : Ev MX6_player 8 2 W [.ref 96, zI p, zI w] Q X := by
  refine ev_of (ls := [.ref 96, zI p, zI w]) (by decide) rfl (fun _ => rfl) (fun _ => Nat.le_of_ble_eq_true rfl) (Or.inr (by decide)) ?_
  obtain ⟨r0, r1, r2, r3, r4, r5, r6, r7, rF, rS, rP, rB⟩ := id hR
  obtain ⟨w0, w0', wW, w1, w2, w2', w3, w3', w4, w4', w5, w5', w6, w6', w7, w7', wS, wP, wT⟩ := id hw
  have wq := zWf.sq hw
  have hn0 : zR (W 0 0) := by unfold zR; omega
  have hn1 : zR (W 0 1) := by unfold zR; omega
  have hn2 : zR (W 0 2) := by unfold zR; omega
  refine rr_aload_n (pc := 0) dX6_player_0 rfl ?_
  refine rr_iload_n (pc := 1) dX6_player_1 rfl ?_
  refine rr_inv (M' := MX6_checkPlayer) (k := 96) (As := [_]) (t' := 1) (pc := 2) dX6_player_2 lX6_139 kX6_checkPlayer vX6_checkPlayer zk_96 (by decide) rfl (by decide) (by decide) (by decide) (Nat.le_of_ble_eq_true rfl) rfl (eX6_checkPlayer hz hn2 (fun k0 k1 => ?_) (fun k => hx (by omega)))
  rw [r2] at k1
  refine rr_iload_n (pc := 5) dX6_player_5 rfl ?_
  refine rr_if_lt (pc := 6) (tgt := 15) dX6_player_6 (by decide) hz2 (fun h6 => ?_) (fun h6 => ?_)
  · exact rr_thr (by decide) tX6_player_15 (hx2 k0 k1 (by omega))
  · refine rr_iload_n (pc := 9) dX6_player_9 rfl ?_
    refine rr_bipush (n := (10)) dX6_player_10 ?_
    refine rr_icmp_lt (pc := 12) (tgt := 25) dX6_player_12 (by decide) hz2 (by unfold zR; omega) (fun h12 => ?_) (fun h12 => ?_)
    · refine rr_iload_n (pc := 25) dX6_player_25 rfl ?_
      refine rr_bipush (n := (6)) dX6_player_26 ?_
      refine rr_icmp_ne (pc := 28) (tgt := 42) dX6_player_28 (by decide) hz2 (by unfold zR; omega) (fun h28 => ?_) (fun h28 => ?_)
      · refine rr_aload_n (pc := 42) dX6_player_42 rfl ?_
        refine rr_getR (pc := 43) dX6_player_43 fX6_12 zk_96 zr_96_0 ?_
        refine rr_iload_n (pc := 46) dX6_player_46 rfl ?_
        refine rr_iload_n (pc := 47) dX6_player_47 rfl ?_
        refine rr_invN (M' := MX0_get) (k := 0) (As := [_, _]) (pc := 48) dX6_player_48 lX6_147 kX0_get vX0_get zCt_0.k (by decide) rfl (by decide) (by decide) (Nat.le_of_ble_eq_true rfl) rfl (eX0_get zCt_0 (by omega) (by omega) (by omega) (by omega) ?_)
        exact rr_reti (pc := 51) dX6_player_51 rfl rfl (vPl_at (rP p k0 k1) (by omega) (by omega) (by omega)) rfl (hq k0 k1 (by omega) (by omega))
      · refine rr_aload_n (pc := 31) dX6_player_31 rfl ?_
        refine rr_getR (pc := 32) dX6_player_32 fX6_12 zk_96 zr_96_0 ?_
        refine rr_iload_n (pc := 35) dX6_player_35 rfl ?_
        refine rr_invN (M' := MX0_squaresOf) (k := 0) (As := [_]) (pc := 36) dX6_player_36 lX6_144 kX0_squaresOf vX0_squaresOf zCt_0.k (by decide) rfl (by decide) (by decide) (Nat.le_of_ble_eq_true rfl) rfl (eX0_squaresOf zCt_0 hR hw hz ?_)
        refine rr_goto (pc := 39) (tgt := 51) dX6_player_39 (by decide) ?_
        exact rr_reti (pc := 51) dX6_player_51 rfl rfl (by unfold vPl; rw [if_pos (by omega)]) rfl (hq k0 k1 (by omega) (by omega))
    · exact rr_thr (by decide) tX6_player_15 (hx2 k0 k1 (by omega))
def vSq (a : Int → Int) (s w : Int) : Int := if w = 0 then (aR a s : Nat) else if w = 1 then aSd a s else if w = 2 then aO a s else if w = 3 then (zSet0 (fun q : Nat => decide (aP a q 5 = s)) (a 2).toNat : Nat) else aL a s
theorem dX6_square_0 : decode cX6_square 0 = .ok (.aload_n 0, 1) := by decide +kernel
theorem dX6_square_1 : decode cX6_square 1 = .ok (.iload_n 1, 1) := by decide +kernel
theorem dX6_square_2 : decode cX6_square 2 = .ok (.invokevirtual 151, 3) := by decide +kernel
theorem dX6_square_5 : decode cX6_square 5 = .ok (.iload_n 2, 1) := by decide +kernel
theorem dX6_square_6 : decode cX6_square 6 = .ok (.tableswitch 82 0 4 #[34, 44, 53, 63, 72], 34) := by decide +kernel
theorem dX6_square_40 : decode cX6_square 40 = .ok (.aload_n 0, 1) := by decide +kernel
theorem dX6_square_41 : decode cX6_square 41 = .ok (.getfield 12, 3) := by decide +kernel
theorem dX6_square_44 : decode cX6_square 44 = .ok (.getfield 154, 3) := by decide +kernel
theorem dX6_square_47 : decode cX6_square 47 = .ok (.iload_n 1, 1) := by decide +kernel
theorem dX6_square_48 : decode cX6_square 48 = .ok (.iaload, 1) := by decide +kernel
theorem dX6_square_49 : decode cX6_square 49 = .ok (.ireturn, 1) := by decide +kernel
theorem dX6_square_50 : decode cX6_square 50 = .ok (.aload_n 0, 1) := by decide +kernel
theorem dX6_square_51 : decode cX6_square 51 = .ok (.getfield 12, 3) := by decide +kernel
theorem dX6_square_54 : decode cX6_square 54 = .ok (.iload_n 1, 1) := by decide +kernel
theorem dX6_square_55 : decode cX6_square 55 = .ok (.invokevirtual 158, 3) := by decide +kernel
theorem dX6_square_58 : decode cX6_square 58 = .ok (.ireturn, 1) := by decide +kernel
theorem dX6_square_59 : decode cX6_square 59 = .ok (.aload_n 0, 1) := by decide +kernel
theorem dX6_square_60 : decode cX6_square 60 = .ok (.getfield 12, 3) := by decide +kernel
theorem dX6_square_63 : decode cX6_square 63 = .ok (.getfield 161, 3) := by decide +kernel
theorem dX6_square_66 : decode cX6_square 66 = .ok (.iload_n 1, 1) := by decide +kernel
theorem dX6_square_67 : decode cX6_square 67 = .ok (.iaload, 1) := by decide +kernel
theorem dX6_square_68 : decode cX6_square 68 = .ok (.ireturn, 1) := by decide +kernel
theorem dX6_square_69 : decode cX6_square 69 = .ok (.aload_n 0, 1) := by decide +kernel
theorem dX6_square_70 : decode cX6_square 70 = .ok (.getfield 12, 3) := by decide +kernel
theorem dX6_square_73 : decode cX6_square 73 = .ok (.iload_n 1, 1) := by decide +kernel
theorem dX6_square_74 : decode cX6_square 74 = .ok (.invokevirtual 164, 3) := by decide +kernel
theorem dX6_square_77 : decode cX6_square 77 = .ok (.ireturn, 1) := by decide +kernel
theorem dX6_square_78 : decode cX6_square 78 = .ok (.aload_n 0, 1) := by decide +kernel
theorem dX6_square_79 : decode cX6_square 79 = .ok (.getfield 12, 3) := by decide +kernel
theorem dX6_square_82 : decode cX6_square 82 = .ok (.getfield 167, 3) := by decide +kernel
theorem dX6_square_85 : decode cX6_square 85 = .ok (.iload_n 1, 1) := by decide +kernel
theorem dX6_square_86 : decode cX6_square 86 = .ok (.iaload, 1) := by decide +kernel
theorem dX6_square_87 : decode cX6_square 87 = .ok (.ireturn, 1) := by decide +kernel
theorem dX6_square_88 : decode cX6_square 88 = .ok (.new 134, 3) := by decide +kernel
theorem dX6_square_91 : decode cX6_square 91 = .ok (.dup, 1) := by decide +kernel
theorem dX6_square_92 : decode cX6_square 92 = .ok (.ldc 170, 2) := by decide +kernel
theorem dX6_square_94 : decode cX6_square 94 = .ok (.invokespecial 138, 3) := by decide +kernel
theorem dX6_square_97 : decode cX6_square 97 = .ok (.athrow, 1) := by decide +kernel
theorem eX6_square {W : zWd} {a : Int → Int} {T : Int} {s w : Int} {Q : Option Value → zWd → Prop} {X : zX} (hR : zCR W 0 a) (hw : zWf T a) (hz : zR s) (hz2 : zR w) (hq : 1 ≤ s → s ≤ a 1 → 0 ≤ w → w ≤ 4 → Q (some (zI (vSq a s w))) W) (hx : ¬ (1 ≤ s ∧ s ≤ a 1) → X "java/lang/IndexOutOfBoundsException" W) (hx2 : 1 ≤ s → s ≤ a 1 → ¬ (0 ≤ w ∧ w ≤ 4) → X "java/lang/IllegalArgumentException" W) : Ev MX6_square 8 2 W [.ref 96, zI s, zI w] Q X := by
  refine ev_of (ls := [.ref 96, zI s, zI w]) (by decide) rfl (fun _ => rfl) (fun _ => Nat.le_of_ble_eq_true rfl) (Or.inr (by decide)) ?_
  obtain ⟨r0, r1, r2, r3, r4, r5, r6, r7, rF, rS, rP, rB⟩ := id hR
  obtain ⟨w0, w0', wW, w1, w2, w2', w3, w3', w4, w4', w5, w5', w6, w6', w7, w7', wS, wP, wT⟩ := id hw
  have wq := zWf.sq hw
  have hn0 : zR (W 0 0) := by unfold zR; omega
  have hn1 : zR (W 0 1) := by unfold zR; omega
  have hn2 : zR (W 0 2) := by unfold zR; omega
  refine rr_aload_n (pc := 0) dX6_square_0 rfl ?_
  refine rr_iload_n (pc := 1) dX6_square_1 rfl ?_
  refine rr_inv (M' := MX6_checkSquare) (k := 96) (As := [_]) (t' := 1) (pc := 2) dX6_square_2 lX6_151 kX6_checkSquare vX6_checkSquare zk_96 (by decide) rfl (by decide) (by decide) (by decide) (Nat.le_of_ble_eq_true rfl) rfl (eX6_checkSquare hz hn1 (fun k0 k1 => ?_) (fun k => hx (by omega)))
  rw [r1] at k1
  obtain ⟨s1, s2, s3⟩ := rS s k0 (by omega) k1
  refine rr_iload_n (pc := 5) dX6_square_5 rfl ?_
  by_cases hsw : 0 ≤ w ∧ w ≤ 4
  · have hsv : w = 0 ∨ w = 1 ∨ w = 2 ∨ w = 3 ∨ w = 4 := by omega
    rcases hsv with rfl | rfl | rfl | rfl | rfl
    · refine rr_tabI (pc := 6) (tgt := 40) dX6_square_6 (by unfold zR; omega) (by decide) (by decide) rfl (by decide) ?_
      refine rr_aload_n (pc := 40) dX6_square_40 rfl ?_
      refine rr_getR (pc := 41) dX6_square_41 fX6_12 zk_96 zr_96_0 ?_
      refine rr_getR (pc := 44) dX6_square_44 fX6_154 zCt_0.k zCt_0.r9 ?_
      refine rr_iload_n (pc := 47) dX6_square_47 rfl ?_
      refine rr_iald (pc := 48) dX6_square_48 zCt_0.a2 (by omega) (by omega) ?_
      exact rr_reti (pc := 49) dX6_square_49 rfl rfl s1 rfl (hq k0 k1 (by omega) (by omega))
    · refine rr_tabI (pc := 6) (tgt := 50) dX6_square_6 (by unfold zR; omega) (by decide) (by decide) rfl (by decide) ?_
      refine rr_aload_n (pc := 50) dX6_square_50 rfl ?_
      refine rr_getR (pc := 51) dX6_square_51 fX6_12 zk_96 zr_96_0 ?_
      refine rr_iload_n (pc := 54) dX6_square_54 rfl ?_
      refine rr_invN (M' := MX0_sideOf) (k := 0) (As := [_]) (pc := 55) dX6_square_55 lX6_158 kX0_sideOf vX0_sideOf zCt_0.k (by decide) rfl (by decide) (by decide) (Nat.le_of_ble_eq_true rfl) rfl (eX0_sideOf zCt_0 hR hw k0 k1 ?_)
      exact rr_reti (pc := 58) dX6_square_58 rfl rfl rfl rfl (hq k0 k1 (by omega) (by omega))
    · refine rr_tabI (pc := 6) (tgt := 59) dX6_square_6 (by unfold zR; omega) (by decide) (by decide) rfl (by decide) ?_
      refine rr_aload_n (pc := 59) dX6_square_59 rfl ?_
      refine rr_getR (pc := 60) dX6_square_60 fX6_12 zk_96 zr_96_0 ?_
      refine rr_getR (pc := 63) dX6_square_63 fX6_161 zCt_0.k zCt_0.r10 ?_
      refine rr_iload_n (pc := 66) dX6_square_66 rfl ?_
      refine rr_iald (pc := 67) dX6_square_67 zCt_0.a3 (by omega) (by omega) ?_
      exact rr_reti (pc := 68) dX6_square_68 rfl rfl s2 rfl (hq k0 k1 (by omega) (by omega))
    · refine rr_tabI (pc := 6) (tgt := 69) dX6_square_6 (by unfold zR; omega) (by decide) (by decide) rfl (by decide) ?_
      refine rr_aload_n (pc := 69) dX6_square_69 rfl ?_
      refine rr_getR (pc := 70) dX6_square_70 fX6_12 zk_96 zr_96_0 ?_
      refine rr_iload_n (pc := 73) dX6_square_73 rfl ?_
      refine rr_invN (M' := MX0_markersOn) (k := 0) (As := [_]) (pc := 74) dX6_square_74 lX6_164 kX0_markersOn vX0_markersOn zCt_0.k (by decide) rfl (by decide) (by decide) (Nat.le_of_ble_eq_true rfl) rfl (eX0_markersOn zCt_0 hR hw k0 k1 ?_)
      exact rr_reti (pc := 77) dX6_square_77 rfl rfl rfl rfl (hq k0 k1 (by omega) (by omega))
    · refine rr_tabI (pc := 6) (tgt := 78) dX6_square_6 (by unfold zR; omega) (by decide) (by decide) rfl (by decide) ?_
      refine rr_aload_n (pc := 78) dX6_square_78 rfl ?_
      refine rr_getR (pc := 79) dX6_square_79 fX6_12 zk_96 zr_96_0 ?_
      refine rr_getR (pc := 82) dX6_square_82 fX6_167 zCt_0.k zCt_0.r11 ?_
      refine rr_iload_n (pc := 85) dX6_square_85 rfl ?_
      refine rr_iald (pc := 86) dX6_square_86 zCt_0.a4 (by omega) (by omega) ?_
      exact rr_reti (pc := 87) dX6_square_87 rfl rfl s3 rfl (hq k0 k1 (by omega) (by omega))
  · refine rr_tabO (pc := 6) (tgt := 88) dX6_square_6 hz2 (by omega) (by decide) ?_
    exact rr_thr (by decide) tX6_square_88 (hx2 k0 k1 hsw)
def vRow (a : Int → Int) (r : Int) : Int := aF a r.toNat + (if a (8 + r) = 2 then 100 else 0)
theorem dX6_row_0 : decode cX6_row 0 = .ok (.aload_n 0, 1) := by decide +kernel
theorem dX6_row_1 : decode cX6_row 1 = .ok (.iload_n 1, 1) := by decide +kernel
theorem dX6_row_2 : decode cX6_row 2 = .ok (.invokevirtual 172, 3) := by decide +kernel
theorem dX6_row_5 : decode cX6_row 5 = .ok (.aload_n 0, 1) := by decide +kernel
theorem dX6_row_6 : decode cX6_row 6 = .ok (.getfield 12, 3) := by decide +kernel
theorem dX6_row_9 : decode cX6_row 9 = .ok (.getfield 175, 3) := by decide +kernel
theorem dX6_row_12 : decode cX6_row 12 = .ok (.iload_n 1, 1) := by decide +kernel
theorem dX6_row_13 : decode cX6_row 13 = .ok (.iaload, 1) := by decide +kernel
theorem dX6_row_14 : decode cX6_row 14 = .ok (.aload_n 0, 1) := by decide +kernel
theorem dX6_row_15 : decode cX6_row 15 = .ok (.getfield 12, 3) := by decide +kernel
theorem dX6_row_18 : decode cX6_row 18 = .ok (.iload_n 1, 1) := by decide +kernel
theorem dX6_row_19 : decode cX6_row 19 = .ok (.invokevirtual 178, 3) := by decide +kernel
theorem dX6_row_22 : decode cX6_row 22 = .ok (.iconst 2, 1) := by decide +kernel
theorem dX6_row_23 : decode cX6_row 23 = .ok (.if_icmp .ne 8, 3) := by decide +kernel
theorem dX6_row_26 : decode cX6_row 26 = .ok (.bipush 100, 2) := by decide +kernel
theorem dX6_row_28 : decode cX6_row 28 = .ok (.goto 4, 3) := by decide +kernel
theorem dX6_row_31 : decode cX6_row 31 = .ok (.iconst 0, 1) := by decide +kernel
theorem dX6_row_32 : decode cX6_row 32 = .ok (.iadd, 1) := by decide +kernel
theorem dX6_row_33 : decode cX6_row 33 = .ok (.ireturn, 1) := by decide +kernel
theorem eX6_row {W : zWd} {a : Int → Int} {T : Int} {r : Int} {Q : Option Value → zWd → Prop} {X : zX} (hR : zCR W 0 a) (hw : zWf T a) (hz : zR r) (hq : 0 ≤ r → r < a 0 → Q (some (zI (vRow a r))) W) (hx : ¬ (0 ≤ r ∧ r < a 0) → X "java/lang/IndexOutOfBoundsException" W) : Ev MX6_row 8 1 W [.ref 96, zI r] Q X := by
  refine ev_of (ls := [.ref 96, zI r]) (by decide) rfl (fun _ => rfl) (fun _ => Nat.le_of_ble_eq_true rfl) (Or.inr (by decide)) ?_
  obtain ⟨r0, r1, r2, r3, r4, r5, r6, r7, rF, rS, rP, rB⟩ := id hR
  obtain ⟨w0, w0', wW, w1, w2, w2', w3, w3', w4, w4', w5, w5', w6, w6', w7, w7', wS, wP, wT⟩ := id hw
  have wq := zWf.sq hw
  have hn0 : zR (W 0 0) := by unfold zR; omega
  have hn1 : zR (W 0 1) := by unfold zR; omega
  have hn2 : zR (W 0 2) := by unfold zR; omega
  refine rr_aload_n (pc := 0) dX6_row_0 rfl ?_
  refine rr_iload_n (pc := 1) dX6_row_1 rfl ?_
  refine rr_inv (M' := MX6_checkRow) (k := 96) (As := [_]) (t' := 1) (pc := 2) dX6_row_2 lX6_172 kX6_checkRow vX6_checkRow zk_96 (by decide) rfl (by decide) (by decide) (by decide) (Nat.le_of_ble_eq_true rfl) rfl (eX6_checkRow hz hn0 (fun k0 k1 => ?_) (fun k => hx (by omega)))
  rw [r0] at k1
  have g0 : W (0 + 1) r = aF a r.toNat := by
    have h9 := rF r.toNat (by omega) (by omega)
    rw [show ((r.toNat : Nat) : Int) = r by omega] at h9; exact h9
  have g1 : W (0 + 1) (r + 1) = aF a (r.toNat + 1) := by
    have h9 := rF (r.toNat + 1) (by omega) (by omega)
    rw [show ((r.toNat + 1 : Nat) : Int) = r + 1 by omega] at h9; exact h9
  have hst := aF_step (a := a) r.toNat
  rw [show ((r.toNat : Nat) : Int) = r by omega] at hst
  have hww := wW r k0 k1
  refine rr_aload_n (pc := 5) dX6_row_5 rfl ?_
  refine rr_getR (pc := 6) dX6_row_6 fX6_12 zk_96 zr_96_0 ?_
  refine rr_getR (pc := 9) dX6_row_9 fX6_175 zCt_0.k zCt_0.r8 ?_
  refine rr_iload_n (pc := 12) dX6_row_12 rfl ?_
  refine rr_iald (pc := 13) dX6_row_13 zCt_0.a1 (by omega) (by omega) ?_
  rw [g0]
  refine rr_aload_n (pc := 14) dX6_row_14 rfl ?_
  refine rr_getR (pc := 15) dX6_row_15 fX6_12 zk_96 zr_96_0 ?_
  refine rr_iload_n (pc := 18) dX6_row_18 rfl ?_
  refine rr_invN (M' := MX0_widthOf) (k := 0) (As := [_]) (pc := 19) dX6_row_19 lX6_178 kX0_widthOf vX0_widthOf zCt_0.k (by decide) rfl (by decide) (by decide) (Nat.le_of_ble_eq_true rfl) rfl (eX0_widthOf zCt_0 k0 (by omega) ?_)
  rw [g0, g1, show aF a (r.toNat + 1) - aF a r.toNat = a (8 + r) by omega]
  refine rr_iconst (n := 2) dX6_row_22 ?_
  refine rr_icmp_ne (pc := 23) (tgt := 31) dX6_row_23 (by decide) (by unfold zR; omega) (by unfold zR; omega) (fun h23 => ?_) (fun h23 => ?_)
  · refine rr_iconst (n := 0) dX6_row_31 ?_
    refine rr_iadd (pc := 32) dX6_row_32 ?_
    exact rr_reti (pc := 33) dX6_row_33 rfl rfl (by unfold vRow; rw [if_neg h23]) rfl (hq k0 k1)
  · refine rr_bipush (n := (100)) dX6_row_26 ?_
    refine rr_goto (pc := 28) (tgt := 32) dX6_row_28 (by decide) ?_
    refine rr_iadd (pc := 32) dX6_row_32 ?_
    exact rr_reti (pc := 33) dX6_row_33 rfl rfl (by unfold vRow; rw [if_pos h23]) rfl (hq k0 k1)
def vFt (a : Int → Int) (p r : Int) : Int := zFo (aF a r.toNat).toNat (a (8 + r)) (fun i => (aUset a p (zMks a (-1) (a 2).toNat)).testBit i) (fun i => (zSet (fun s => decide (aO a s = p)) (a 1).toNat).testBit i)
theorem dX6_footing_0 : decode cX6_footing 0 = .ok (.aload_n 0, 1) := by decide +kernel
theorem dX6_footing_1 : decode cX6_footing 1 = .ok (.iload_n 1, 1) := by decide +kernel
theorem dX6_footing_2 : decode cX6_footing 2 = .ok (.invokevirtual 139, 3) := by decide +kernel
theorem dX6_footing_5 : decode cX6_footing 5 = .ok (.aload_n 0, 1) := by decide +kernel
theorem dX6_footing_6 : decode cX6_footing 6 = .ok (.iload_n 2, 1) := by decide +kernel
theorem dX6_footing_7 : decode cX6_footing 7 = .ok (.invokevirtual 172, 3) := by decide +kernel
theorem dX6_footing_10 : decode cX6_footing 10 = .ok (.aload_n 0, 1) := by decide +kernel
theorem dX6_footing_11 : decode cX6_footing 11 = .ok (.getfield 12, 3) := by decide +kernel
theorem dX6_footing_14 : decode cX6_footing 14 = .ok (.iload_n 1, 1) := by decide +kernel
theorem dX6_footing_15 : decode cX6_footing 15 = .ok (.aload_n 0, 1) := by decide +kernel
theorem dX6_footing_16 : decode cX6_footing 16 = .ok (.getfield 12, 3) := by decide +kernel
theorem dX6_footing_19 : decode cX6_footing 19 = .ok (.iconst (-1), 1) := by decide +kernel
theorem dX6_footing_20 : decode cX6_footing 20 = .ok (.invokevirtual 181, 3) := by decide +kernel
theorem dX6_footing_23 : decode cX6_footing 23 = .ok (.invokevirtual 184, 3) := by decide +kernel
theorem dX6_footing_26 : decode cX6_footing 26 = .ok (.istore_n 3, 1) := by decide +kernel
theorem dX6_footing_27 : decode cX6_footing 27 = .ok (.aload_n 0, 1) := by decide +kernel
theorem dX6_footing_28 : decode cX6_footing 28 = .ok (.getfield 12, 3) := by decide +kernel
theorem dX6_footing_31 : decode cX6_footing 31 = .ok (.iload_n 2, 1) := by decide +kernel
theorem dX6_footing_32 : decode cX6_footing 32 = .ok (.iload_n 3, 1) := by decide +kernel
theorem dX6_footing_33 : decode cX6_footing 33 = .ok (.aload_n 0, 1) := by decide +kernel
theorem dX6_footing_34 : decode cX6_footing 34 = .ok (.getfield 12, 3) := by decide +kernel
theorem dX6_footing_37 : decode cX6_footing 37 = .ok (.iload_n 1, 1) := by decide +kernel
theorem dX6_footing_38 : decode cX6_footing 38 = .ok (.invokevirtual 144, 3) := by decide +kernel
theorem dX6_footing_41 : decode cX6_footing 41 = .ok (.invokevirtual 187, 3) := by decide +kernel
theorem dX6_footing_44 : decode cX6_footing 44 = .ok (.ireturn, 1) := by decide +kernel
theorem eX6_footing {W : zWd} {a : Int → Int} {T : Int} {p r : Int} {Q : Option Value → zWd → Prop} {X : zX} (hR : zCR W 0 a) (hw : zWf T a) (hz : zR p) (hz2 : zR r) (hq : 0 ≤ p → p < a 2 → 0 ≤ r → r < a 0 → Q (some (zI (vFt a p r))) W) (hx : ¬ ((0 ≤ p ∧ p < a 2) ∧ 0 ≤ r ∧ r < a 0) → X "java/lang/IndexOutOfBoundsException" W) : Ev MX6_footing 8 2 W [.ref 96, zI p, zI r] Q X := by
  refine ev_of (ls := [.ref 96, zI p, zI r, .null]) (by decide) rfl (fun _ => rfl) (fun _ => Nat.le_of_ble_eq_true rfl) (Or.inr (by decide)) ?_
  obtain ⟨r0, r1, r2, r3, r4, r5, r6, r7, rF, rS, rP, rB⟩ := id hR
  obtain ⟨w0, w0', wW, w1, w2, w2', w3, w3', w4, w4', w5, w5', w6, w6', w7, w7', wS, wP, wT⟩ := id hw
  have wq := zWf.sq hw
  have hn0 : zR (W 0 0) := by unfold zR; omega
  have hn1 : zR (W 0 1) := by unfold zR; omega
  have hn2 : zR (W 0 2) := by unfold zR; omega
  refine rr_aload_n (pc := 0) dX6_footing_0 rfl ?_
  refine rr_iload_n (pc := 1) dX6_footing_1 rfl ?_
  refine rr_inv (M' := MX6_checkPlayer) (k := 96) (As := [_]) (t' := 1) (pc := 2) dX6_footing_2 lX6_139 kX6_checkPlayer vX6_checkPlayer zk_96 (by decide) rfl (by decide) (by decide) (by decide) (Nat.le_of_ble_eq_true rfl) rfl (eX6_checkPlayer hz hn2 (fun k0 k1 => ?_) (fun k => hx (by omega)))
  rw [r2] at k1
  refine rr_aload_n (pc := 5) dX6_footing_5 rfl ?_
  refine rr_iload_n (pc := 6) dX6_footing_6 rfl ?_
  refine rr_inv (M' := MX6_checkRow) (k := 96) (As := [_]) (t' := 1) (pc := 7) dX6_footing_7 lX6_172 kX6_checkRow vX6_checkRow zk_96 (by decide) rfl (by decide) (by decide) (by decide) (Nat.le_of_ble_eq_true rfl) rfl (eX6_checkRow hz2 hn0 (fun j0 j1 => ?_) (fun k => hx (by omega)))
  rw [r0] at j1
  refine rr_aload_n (pc := 10) dX6_footing_10 rfl ?_
  refine rr_getR (pc := 11) dX6_footing_11 fX6_12 zk_96 zr_96_0 ?_
  refine rr_iload_n (pc := 14) dX6_footing_14 rfl ?_
  refine rr_aload_n (pc := 15) dX6_footing_15 rfl ?_
  refine rr_getR (pc := 16) dX6_footing_16 fX6_12 zk_96 zr_96_0 ?_
  refine rr_iconst (n := (-1)) dX6_footing_19 ?_
  refine rr_invN (M' := MX0_markedSquares) (k := 0) (As := [_]) (pc := 20) dX6_footing_20 lX6_181 kX0_markedSquares vX0_markedSquares zCt_0.k (by decide) rfl (by decide) (by decide) (Nat.le_of_ble_eq_true rfl) rfl (eX0_markedSquares zCt_0 hR hw (by unfold zR; omega) ?_)
  refine rr_invN (M' := MX0_usableSet) (k := 0) (As := [_, _]) (pc := 23) dX6_footing_23 lX6_184 kX0_usableSet vX0_usableSet zCt_0.k (by decide) rfl (by decide) (by decide) (Nat.le_of_ble_eq_true rfl) rfl (eX0_usableSet zCt_0 hR hw hz (zMks_21 hw) ?_)
  refine rr_istore_n (pc := 26) dX6_footing_26 (by decide) ?_
  refine rr_aload_n (pc := 27) dX6_footing_27 rfl ?_
  refine rr_getR (pc := 28) dX6_footing_28 fX6_12 zk_96 zr_96_0 ?_
  refine rr_iload_n (pc := 31) dX6_footing_31 rfl ?_
  refine rr_iload_n (pc := 32) dX6_footing_32 rfl ?_
  refine rr_aload_n (pc := 33) dX6_footing_33 rfl ?_
  refine rr_getR (pc := 34) dX6_footing_34 fX6_12 zk_96 zr_96_0 ?_
  refine rr_iload_n (pc := 37) dX6_footing_37 rfl ?_
  refine rr_invN (M' := MX0_squaresOf) (k := 0) (As := [_]) (pc := 38) dX6_footing_38 lX6_144 kX0_squaresOf vX0_squaresOf zCt_0.k (by decide) rfl (by decide) (by decide) (Nat.le_of_ble_eq_true rfl) rfl (eX0_squaresOf zCt_0 hR hw hz ?_)
  refine rr_invN (M' := MX0_footingOf) (k := 0) (As := [_, _, _]) (pc := 41) dX6_footing_41 lX6_187 kX0_footingOf vX0_footingOf zCt_0.k (by decide) rfl (by decide) (by decide) (Nat.le_of_ble_eq_true rfl) rfl (eX0_footingOf zCt_0 hR hw j0 j1 (aUset_lt wq.2) (zSet_32 _ (by omega)) ?_)
  exact rr_reti (pc := 44) dX6_footing_44 rfl rfl rfl rfl (hq k0 k1 j0 j1)
theorem dX6_throwFault_0 : decode cX6_throwFault 0 = .ok (.aload_n 0, 1) := by decide +kernel
theorem dX6_throwFault_1 : decode cX6_throwFault 1 = .ok (.iload_n 1, 1) := by decide +kernel
theorem dX6_throwFault_2 : decode cX6_throwFault 2 = .ok (.invokevirtual 139, 3) := by decide +kernel
theorem dX6_throwFault_5 : decode cX6_throwFault 5 = .ok (.iload_n 2, 1) := by decide +kernel
theorem dX6_throwFault_6 : decode cX6_throwFault 6 = .ok (.iload_n 3, 1) := by decide +kernel
theorem dX6_throwFault_7 : decode cX6_throwFault 7 = .ok (.invokestatic 191, 3) := by decide +kernel
theorem dX6_throwFault_10 : decode cX6_throwFault 10 = .ok (.aload_n 0, 1) := by decide +kernel
theorem dX6_throwFault_11 : decode cX6_throwFault 11 = .ok (.getfield 12, 3) := by decide +kernel
theorem dX6_throwFault_14 : decode cX6_throwFault 14 = .ok (.iload_n 1, 1) := by decide +kernel
theorem dX6_throwFault_15 : decode cX6_throwFault 15 = .ok (.iload_n 2, 1) := by decide +kernel
theorem dX6_throwFault_16 : decode cX6_throwFault 16 = .ok (.iload_n 3, 1) := by decide +kernel
theorem dX6_throwFault_17 : decode cX6_throwFault 17 = .ok (.invokevirtual 195, 3) := by decide +kernel
theorem dX6_throwFault_20 : decode cX6_throwFault 20 = .ok (.ireturn, 1) := by decide +kernel
theorem eX6_throwFault {W : zWd} {a : Int → Int} {T : Int} {p r s : Int} {Q : Option Value → zWd → Prop} {X : zX} (hR : zCR W 0 a) (hw : zWf T a) (hz : zR p) (hz2 : zR r) (hz3 : zR s) (hq : 0 ≤ p → p < a 2 → (0 ≤ r ∧ r ≤ 199 ∧ 0 ≤ s ∧ s ≤ 1) → Q (some (zI (aFault a p r s))) W) (hx : ¬ (0 ≤ p ∧ p < a 2) → X "java/lang/IndexOutOfBoundsException" W) (hx2 : 0 ≤ p → p < a 2 → ¬ (0 ≤ r ∧ r ≤ 199 ∧ 0 ≤ s ∧ s ≤ 1) → X "java/lang/IllegalArgumentException" W) : Ev MX6_throwFault 8 2 W [.ref 96, zI p, zI r, zI s] Q X := by
  refine ev_of (ls := [.ref 96, zI p, zI r, zI s]) (by decide) rfl (fun _ => rfl) (fun _ => Nat.le_of_ble_eq_true rfl) (Or.inr (by decide)) ?_
  obtain ⟨r0, r1, r2, r3, r4, r5, r6, r7, rF, rS, rP, rB⟩ := id hR
  obtain ⟨w0, w0', wW, w1, w2, w2', w3, w3', w4, w4', w5, w5', w6, w6', w7, w7', wS, wP, wT⟩ := id hw
  have wq := zWf.sq hw
  have hn0 : zR (W 0 0) := by unfold zR; omega
  have hn1 : zR (W 0 1) := by unfold zR; omega
  have hn2 : zR (W 0 2) := by unfold zR; omega
  refine rr_aload_n (pc := 0) dX6_throwFault_0 rfl ?_
  refine rr_iload_n (pc := 1) dX6_throwFault_1 rfl ?_
  refine rr_inv (M' := MX6_checkPlayer) (k := 96) (As := [_]) (t' := 1) (pc := 2) dX6_throwFault_2 lX6_139 kX6_checkPlayer vX6_checkPlayer zk_96 (by decide) rfl (by decide) (by decide) (by decide) (Nat.le_of_ble_eq_true rfl) rfl (eX6_checkPlayer hz hn2 (fun k0 k1 => ?_) (fun k => hx (by omega)))
  rw [r2] at k1
  refine rr_iload_n (pc := 5) dX6_throwFault_5 rfl ?_
  refine rr_iload_n (pc := 6) dX6_throwFault_6 rfl ?_
  refine rr_sta (M' := MX6_checkThrow) (As := [_, _]) (t' := 1) (pc := 7) dX6_throwFault_7 lX6_191 kX6_checkThrow sX6_checkThrow (by decide) (by decide) (by decide) (Nat.le_of_ble_eq_true rfl) rfl (eX6_checkThrow hz2 hz3 (fun j0 j1 j2 j3 => ?_) (fun k => hx2 k0 k1 (by omega)))
  refine rr_aload_n (pc := 10) dX6_throwFault_10 rfl ?_
  refine rr_getR (pc := 11) dX6_throwFault_11 fX6_12 zk_96 zr_96_0 ?_
  refine rr_iload_n (pc := 14) dX6_throwFault_14 rfl ?_
  refine rr_iload_n (pc := 15) dX6_throwFault_15 rfl ?_
  refine rr_iload_n (pc := 16) dX6_throwFault_16 rfl ?_
  refine rr_invN (M' := MX0_faultOfThrow) (k := 0) (As := [_, _, _]) (pc := 17) dX6_throwFault_17 lX6_195 kX0_faultOfThrow vX0_faultOfThrow zCt_0.k (by decide) rfl (by decide) (by decide) (Nat.le_of_ble_eq_true rfl) rfl (eX0_faultOfThrow zCt_0 hR hw k0 k1 j0 j1 j2 j3 ?_)
  exact rr_reti (pc := 20) dX6_throwFault_20 rfl rfl rfl rfl (hq k0 k1 ⟨j0, j1, j2, j3⟩)
def vBest (a : Int → Int) (p : Int) : Int := if aP a p 2 = 0 then -1 else 2 * aLp a (aP a p 2) + aSd a (aP a p 2)
theorem dX6_bestThrow_0 : decode cX6_bestThrow 0 = .ok (.aload_n 0, 1) := by decide +kernel
theorem dX6_bestThrow_1 : decode cX6_bestThrow 1 = .ok (.iload_n 1, 1) := by decide +kernel
theorem dX6_bestThrow_2 : decode cX6_bestThrow 2 = .ok (.invokevirtual 139, 3) := by decide +kernel
theorem dX6_bestThrow_5 : decode cX6_bestThrow 5 = .ok (.aload_n 0, 1) := by decide +kernel
theorem dX6_bestThrow_6 : decode cX6_bestThrow 6 = .ok (.getfield 12, 3) := by decide +kernel
theorem dX6_bestThrow_9 : decode cX6_bestThrow 9 = .ok (.iload_n 1, 1) := by decide +kernel
theorem dX6_bestThrow_10 : decode cX6_bestThrow 10 = .ok (.iconst 2, 1) := by decide +kernel
theorem dX6_bestThrow_11 : decode cX6_bestThrow 11 = .ok (.invokevirtual 147, 3) := by decide +kernel
theorem dX6_bestThrow_14 : decode cX6_bestThrow 14 = .ok (.istore_n 2, 1) := by decide +kernel
theorem dX6_bestThrow_15 : decode cX6_bestThrow 15 = .ok (.iload_n 2, 1) := by decide +kernel
theorem dX6_bestThrow_16 : decode cX6_bestThrow 16 = .ok (.ifCond .ne 7, 3) := by decide +kernel
theorem dX6_bestThrow_19 : decode cX6_bestThrow 19 = .ok (.iconst (-1), 1) := by decide +kernel
theorem dX6_bestThrow_20 : decode cX6_bestThrow 20 = .ok (.goto 22, 3) := by decide +kernel
theorem dX6_bestThrow_23 : decode cX6_bestThrow 23 = .ok (.iconst 2, 1) := by decide +kernel
theorem dX6_bestThrow_24 : decode cX6_bestThrow 24 = .ok (.aload_n 0, 1) := by decide +kernel
theorem dX6_bestThrow_25 : decode cX6_bestThrow 25 = .ok (.getfield 12, 3) := by decide +kernel
theorem dX6_bestThrow_28 : decode cX6_bestThrow 28 = .ok (.iload_n 2, 1) := by decide +kernel
theorem dX6_bestThrow_29 : decode cX6_bestThrow 29 = .ok (.invokevirtual 198, 3) := by decide +kernel
theorem dX6_bestThrow_32 : decode cX6_bestThrow 32 = .ok (.imul, 1) := by decide +kernel
theorem dX6_bestThrow_33 : decode cX6_bestThrow 33 = .ok (.aload_n 0, 1) := by decide +kernel
theorem dX6_bestThrow_34 : decode cX6_bestThrow 34 = .ok (.getfield 12, 3) := by decide +kernel
theorem dX6_bestThrow_37 : decode cX6_bestThrow 37 = .ok (.iload_n 2, 1) := by decide +kernel
theorem dX6_bestThrow_38 : decode cX6_bestThrow 38 = .ok (.invokevirtual 158, 3) := by decide +kernel
theorem dX6_bestThrow_41 : decode cX6_bestThrow 41 = .ok (.iadd, 1) := by decide +kernel
theorem dX6_bestThrow_42 : decode cX6_bestThrow 42 = .ok (.ireturn, 1) := by decide +kernel
theorem eX6_bestThrow {W : zWd} {a : Int → Int} {T : Int} {p : Int} {Q : Option Value → zWd → Prop} {X : zX} (hR : zCR W 0 a) (hw : zWf T a) (hz : zR p) (hq : 0 ≤ p → p < a 2 → Q (some (zI (vBest a p))) W) (hx : ¬ (0 ≤ p ∧ p < a 2) → X "java/lang/IndexOutOfBoundsException" W) : Ev MX6_bestThrow 8 1 W [.ref 96, zI p] Q X := by
  refine ev_of (ls := [.ref 96, zI p, .null]) (by decide) rfl (fun _ => rfl) (fun _ => Nat.le_of_ble_eq_true rfl) (Or.inr (by decide)) ?_
  obtain ⟨r0, r1, r2, r3, r4, r5, r6, r7, rF, rS, rP, rB⟩ := id hR
  obtain ⟨w0, w0', wW, w1, w2, w2', w3, w3', w4, w4', w5, w5', w6, w6', w7, w7', wS, wP, wT⟩ := id hw
  have wq := zWf.sq hw
  have hn0 : zR (W 0 0) := by unfold zR; omega
  have hn1 : zR (W 0 1) := by unfold zR; omega
  have hn2 : zR (W 0 2) := by unfold zR; omega
  refine rr_aload_n (pc := 0) dX6_bestThrow_0 rfl ?_
  refine rr_iload_n (pc := 1) dX6_bestThrow_1 rfl ?_
  refine rr_inv (M' := MX6_checkPlayer) (k := 96) (As := [_]) (t' := 1) (pc := 2) dX6_bestThrow_2 lX6_139 kX6_checkPlayer vX6_checkPlayer zk_96 (by decide) rfl (by decide) (by decide) (by decide) (Nat.le_of_ble_eq_true rfl) rfl (eX6_checkPlayer hz hn2 (fun k0 k1 => ?_) (fun k => hx (by omega)))
  rw [r2] at k1
  have hm := rP p k0 k1
  have hm2 := wP p k0 k1
  unfold zWfP at hm2
  refine rr_aload_n (pc := 5) dX6_bestThrow_5 rfl ?_
  refine rr_getR (pc := 6) dX6_bestThrow_6 fX6_12 zk_96 zr_96_0 ?_
  refine rr_iload_n (pc := 9) dX6_bestThrow_9 rfl ?_
  refine rr_iconst (n := 2) dX6_bestThrow_10 ?_
  refine rr_invN (M' := MX0_get) (k := 0) (As := [_, _]) (pc := 11) dX6_bestThrow_11 lX6_147 kX0_get vX0_get zCt_0.k (by decide) rfl (by decide) (by decide) (Nat.le_of_ble_eq_true rfl) rfl (eX0_get zCt_0 (by omega) (by omega) (by omega) (by omega) ?_)
  rw [hm.2.2.1]
  refine rr_istore_n (pc := 14) dX6_bestThrow_14 (by decide) ?_
  refine rr_iload_n (pc := 15) dX6_bestThrow_15 rfl ?_
  refine rr_if_ne (pc := 16) (tgt := 23) dX6_bestThrow_16 (by decide) (by unfold zR; omega) (fun h16 => ?_) (fun h16 => ?_)
  · refine rr_iconst (n := 2) dX6_bestThrow_23 ?_
    refine rr_aload_n (pc := 24) dX6_bestThrow_24 rfl ?_
    refine rr_getR (pc := 25) dX6_bestThrow_25 fX6_12 zk_96 zr_96_0 ?_
    refine rr_iload_n (pc := 28) dX6_bestThrow_28 rfl ?_
    refine rr_invN (M' := MX0_leastPower) (k := 0) (As := [_]) (pc := 29) dX6_bestThrow_29 lX6_198 kX0_leastPower vX0_leastPower zCt_0.k (by decide) rfl (by decide) (by decide) (Nat.le_of_ble_eq_true rfl) rfl (eX0_leastPower zCt_0 hR hw (by omega) (by omega) ?_)
    refine rr_imul (pc := 32) dX6_bestThrow_32 ?_
    refine rr_aload_n (pc := 33) dX6_bestThrow_33 rfl ?_
    refine rr_getR (pc := 34) dX6_bestThrow_34 fX6_12 zk_96 zr_96_0 ?_
    refine rr_iload_n (pc := 37) dX6_bestThrow_37 rfl ?_
    refine rr_invN (M' := MX0_sideOf) (k := 0) (As := [_]) (pc := 38) dX6_bestThrow_38 lX6_158 kX0_sideOf vX0_sideOf zCt_0.k (by decide) rfl (by decide) (by decide) (Nat.le_of_ble_eq_true rfl) rfl (eX0_sideOf zCt_0 hR hw (by omega) (by omega) ?_)
    refine rr_iadd (pc := 41) dX6_bestThrow_41 ?_
    exact rr_reti (pc := 42) dX6_bestThrow_42 rfl rfl (by unfold vBest; rw [if_neg h16]; rfl) rfl (hq k0 k1)
  · refine rr_iconst (n := (-1)) dX6_bestThrow_19 ?_
    refine rr_goto (pc := 20) (tgt := 42) dX6_bestThrow_20 (by decide) ?_
    exact rr_reti (pc := 42) dX6_bestThrow_42 rfl rfl (by unfold vBest; rw [if_pos (by omega)]) rfl (hq k0 k1)
