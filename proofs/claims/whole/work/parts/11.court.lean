theorem dX0_get_0 : decode cX0_get 0 = .ok (.aload_n 0, 1) := by decide +kernel
theorem dX0_get_1 : decode cX0_get 1 = .ok (.getfield 24, 3) := by decide +kernel
theorem dX0_get_4 : decode cX0_get 4 = .ok (.iload_n 1, 1) := by decide +kernel
theorem dX0_get_5 : decode cX0_get 5 = .ok (.bipush 10, 2) := by decide +kernel
theorem dX0_get_7 : decode cX0_get 7 = .ok (.imul, 1) := by decide +kernel
theorem dX0_get_8 : decode cX0_get 8 = .ok (.iload_n 2, 1) := by decide +kernel
theorem dX0_get_9 : decode cX0_get 9 = .ok (.iadd, 1) := by decide +kernel
theorem dX0_get_10 : decode cX0_get 10 = .ok (.iaload, 1) := by decide +kernel
theorem dX0_get_11 : decode cX0_get 11 = .ok (.ireturn, 1) := by decide +kernel
theorem eX0_get {c : Nat} {W : zWd} {p w : Int} {Q : Option Value → zWd → Prop} {X : zX} (hc : zCt c) (hp0 : 0 ≤ p) (hp1 : p < 6) (hw0 : 0 ≤ w) (hw1 : w < 10) (hq : Q (some (zI (W (c + 5) (p * 10 + w)))) W) : Ev MX0_get 0 0 W [.ref c, zI p, zI w] Q X := by
  refine ev_of (ls := [.ref c, zI p, zI w]) (by decide) rfl (fun _ => rfl) (fun _ => Nat.le_of_ble_eq_true rfl) (Or.inl rfl) ?_
  refine rr_aload_n (pc := 0) dX0_get_0 rfl ?_
  refine rr_getR (pc := 1) dX0_get_1 fX0_24 hc.k hc.r12 ?_
  refine rr_iload_n (pc := 4) dX0_get_4 rfl ?_
  refine rr_bipush (n := (10)) dX0_get_5 ?_
  refine rr_imul (pc := 7) dX0_get_7 ?_
  refine rr_iload_n (pc := 8) dX0_get_8 rfl ?_
  refine rr_iadd (pc := 9) dX0_get_9 ?_
  refine rr_iald (pc := 10) dX0_get_10 hc.a5 (by omega) (by omega) ?_
  exact rr_reti (pc := 11) dX0_get_11 rfl rfl rfl rfl (hq)
theorem dX0_put_0 : decode cX0_put 0 = .ok (.aload_n 0, 1) := by decide +kernel
theorem dX0_put_1 : decode cX0_put 1 = .ok (.getfield 24, 3) := by decide +kernel
theorem dX0_put_4 : decode cX0_put 4 = .ok (.iload_n 1, 1) := by decide +kernel
theorem dX0_put_5 : decode cX0_put 5 = .ok (.bipush 10, 2) := by decide +kernel
theorem dX0_put_7 : decode cX0_put 7 = .ok (.imul, 1) := by decide +kernel
theorem dX0_put_8 : decode cX0_put 8 = .ok (.iload_n 2, 1) := by decide +kernel
theorem dX0_put_9 : decode cX0_put 9 = .ok (.iadd, 1) := by decide +kernel
theorem dX0_put_10 : decode cX0_put 10 = .ok (.iload_n 3, 1) := by decide +kernel
theorem dX0_put_11 : decode cX0_put 11 = .ok (.iastore, 1) := by decide +kernel
theorem dX0_put_12 : decode cX0_put 12 = .ok (.return_, 1) := by decide +kernel
theorem eX0_put {c : Nat} {W : zWd} {p w v : Int} {Q : Option Value → zWd → Prop} {X : zX} (hc : zCt c) (hp0 : 0 ≤ p) (hp1 : p < 6) (hw0 : 0 ≤ w) (hw1 : w < 10) (hq : Q none (zup W (c + 5) (p * 10 + w) v)) : Ev MX0_put 0 0 W [.ref c, zI p, zI w, zI v] Q X := by
  refine ev_of (ls := [.ref c, zI p, zI w, zI v]) (by decide) rfl (fun _ => rfl) (fun _ => Nat.le_of_ble_eq_true rfl) (Or.inl rfl) ?_
  refine rr_aload_n (pc := 0) dX0_put_0 rfl ?_
  refine rr_getR (pc := 1) dX0_put_1 fX0_24 hc.k hc.r12 ?_
  refine rr_iload_n (pc := 4) dX0_put_4 rfl ?_
  refine rr_bipush (n := (10)) dX0_put_5 ?_
  refine rr_imul (pc := 7) dX0_put_7 ?_
  refine rr_iload_n (pc := 8) dX0_put_8 rfl ?_
  refine rr_iadd (pc := 9) dX0_put_9 ?_
  refine rr_iload_n (pc := 10) dX0_put_10 rfl ?_
  refine rr_iast (pc := 11) dX0_put_11 hc.a5 (by omega) (by omega) ?_
  exact rr_retv (pc := 12) dX0_put_12 rfl rfl (hq)
theorem dX0_widthOf_0 : decode cX0_widthOf 0 = .ok (.aload_n 0, 1) := by decide +kernel
theorem dX0_widthOf_1 : decode cX0_widthOf 1 = .ok (.getfield 9, 3) := by decide +kernel
theorem dX0_widthOf_4 : decode cX0_widthOf 4 = .ok (.iload_n 1, 1) := by decide +kernel
theorem dX0_widthOf_5 : decode cX0_widthOf 5 = .ok (.iconst 1, 1) := by decide +kernel
theorem dX0_widthOf_6 : decode cX0_widthOf 6 = .ok (.iadd, 1) := by decide +kernel
theorem dX0_widthOf_7 : decode cX0_widthOf 7 = .ok (.iaload, 1) := by decide +kernel
theorem dX0_widthOf_8 : decode cX0_widthOf 8 = .ok (.aload_n 0, 1) := by decide +kernel
theorem dX0_widthOf_9 : decode cX0_widthOf 9 = .ok (.getfield 9, 3) := by decide +kernel
theorem dX0_widthOf_12 : decode cX0_widthOf 12 = .ok (.iload_n 1, 1) := by decide +kernel
theorem dX0_widthOf_13 : decode cX0_widthOf 13 = .ok (.iaload, 1) := by decide +kernel
theorem dX0_widthOf_14 : decode cX0_widthOf 14 = .ok (.isub, 1) := by decide +kernel
theorem dX0_widthOf_15 : decode cX0_widthOf 15 = .ok (.ireturn, 1) := by decide +kernel
theorem eX0_widthOf {c : Nat} {W : zWd} {r : Int} {Q : Option Value → zWd → Prop} {X : zX} (hc : zCt c) (h0 : 0 ≤ r) (h1 : r < 10) (hq : Q (some (zI (W (c + 1) (r + 1) - W (c + 1) r))) W) : Ev MX0_widthOf 0 0 W [.ref c, zI r] Q X := by
  refine ev_of (ls := [.ref c, zI r]) (by decide) rfl (fun _ => rfl) (fun _ => Nat.le_of_ble_eq_true rfl) (Or.inl rfl) ?_
  refine rr_aload_n (pc := 0) dX0_widthOf_0 rfl ?_
  refine rr_getR (pc := 1) dX0_widthOf_1 fX0_9 hc.k hc.r8 ?_
  refine rr_iload_n (pc := 4) dX0_widthOf_4 rfl ?_
  refine rr_iconst (n := 1) dX0_widthOf_5 ?_
  refine rr_iadd (pc := 6) dX0_widthOf_6 ?_
  refine rr_iald (pc := 7) dX0_widthOf_7 hc.a1 (by omega) (by omega) ?_
  refine rr_aload_n (pc := 8) dX0_widthOf_8 rfl ?_
  refine rr_getR (pc := 9) dX0_widthOf_9 fX0_9 hc.k hc.r8 ?_
  refine rr_iload_n (pc := 12) dX0_widthOf_12 rfl ?_
  refine rr_iald (pc := 13) dX0_widthOf_13 hc.a1 (by omega) (by omega) ?_
  refine rr_isub (pc := 14) dX0_widthOf_14 ?_
  exact rr_reti (pc := 15) dX0_widthOf_15 rfl rfl rfl rfl (hq)
