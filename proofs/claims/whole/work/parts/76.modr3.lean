theorem dX7_isTaken_0 : decode cX7_isTaken 0 = .ok (.aload_n 0, 1) := by decide +kernel
theorem dX7_isTaken_1 : decode cX7_isTaken 1 = .ok (.aload_n 1, 1) := by decide +kernel
theorem dX7_isTaken_2 : decode cX7_isTaken 2 = .ok (.invokevirtual 138, 3) := by decide +kernel
theorem dX7_isTaken_5 : decode cX7_isTaken 5 = .ok (.istore_n 2, 1) := by decide +kernel
theorem dX7_isTaken_6 : decode cX7_isTaken 6 = .ok (.iload_n 2, 1) := by decide +kernel
theorem dX7_isTaken_7 : decode cX7_isTaken 7 = .ok (.ifCond .eq 7, 3) := by decide +kernel
theorem dX7_isTaken_10 : decode cX7_isTaken 10 = .ok (.aload_n 0, 1) := by decide +kernel
theorem dX7_isTaken_11 : decode cX7_isTaken 11 = .ok (.invokevirtual 132, 3) := by decide +kernel
theorem dX7_isTaken_14 : decode cX7_isTaken 14 = .ok (.iload_n 2, 1) := by decide +kernel
theorem dX7_isTaken_15 : decode cX7_isTaken 15 = .ok (.ireturn, 1) := by decide +kernel
theorem eX7_isTakenG {W : zWd} {B : Nat → Int} {N p : Nat} {d : Int} {a : Int → Int} {i : Nat} {q : String × Nat × String × List Int} {Q : Option Value → zWd → Prop} {X : zX} (h : zMR W B N d (.inr (p, a))) (hs : zStrs[i]? = some q) (hw : zWo q) (hne : 0 < q.2.2.2.length) (hq0 : ¬ sW B N p q.2.2.2 = true → Q (some (zI 0)) W) (hq1 : sW B N p q.2.2.2 = true → ∀ W' : zWd, zOfR W W' → zMR W' B N d (.inr (adv B N p, a)) → Q (some (zI 1)) W') : Ev MX7_isTaken 5 0 W [.ref 116, .ref (1000 + i)] Q X := by
  refine ev_of (ls := [.ref 116, .ref (1000 + i), .null]) (by decide) rfl (fun _ => rfl) (fun _ => Nat.le_of_ble_eq_true rfl) (Or.inl rfl) ?_

  refine rr_aload_n (pc := 0) dX7_isTaken_0 rfl ?_
  refine rr_aload_n (pc := 1) dX7_isTaken_1 rfl ?_
  refine rr_inv0 (M' := MX7_isWord) (k := 116) (As := [_]) (pc := 2) dX7_isTaken_2 lX7_138 kX7_isWord vX7_isWord zk_116 (by decide) rfl (by decide) (by decide) (Nat.le_of_ble_eq_true rfl) rfl (eX7_isWordG h hs hw hne ?_)
  refine rr_istore_n (pc := 5) dX7_isTaken_5 (by decide) ?_
  refine rr_iload_n (pc := 6) dX7_isTaken_6 rfl ?_
  refine rr_if_eq (pc := 7) (tgt := 14) dX7_isTaken_7 (by decide) (by split <;> (unfold zR; omega)) (fun h7 => ?_) (fun h7 => ?_)
  · refine rr_iload_n (pc := 14) dX7_isTaken_14 rfl ?_
    have hn := z_i10 h7
    exact rr_reti (pc := 15) dX7_isTaken_15 rfl z_nb (if_neg hn) rfl (hq0 hn)
  · refine rr_aload_n (pc := 10) dX7_isTaken_10 rfl ?_
    have hn := z_i10n h7
    have hed := sEd_w (sW_kd hne hn)
    refine rr_inv0 (M' := MX7_next) (k := 116) (As := []) (pc := 11) dX7_isTaken_11 lX7_132 kX7_next vX7_next zk_116 (by decide) rfl (by decide) (by decide) (Nat.le_of_ble_eq_true rfl) rfl (eX7_nextG h (fun W1 o1 r1 => ?_))
    rw [hed] at r1
    refine rr_iload_n (pc := 14) dX7_isTaken_14 rfl ?_
    exact rr_reti (pc := 15) dX7_isTaken_15 rfl z_nb (if_pos hn) rfl (hq1 hn W1 o1.R r1)
theorem eX7_isTakenB {W : zWd} {d c : Int} {p : Nat} {i : Nat} {Q : Option Value → zWd → Prop} {X : zX} (h : zBd W d c p) (hq : Q (some (zI 0)) W) : Ev MX7_isTaken 5 0 W [.ref 116, .ref (1000 + i)] Q X := by
  refine ev_of (ls := [.ref 116, .ref (1000 + i), .null]) (by decide) rfl (fun _ => rfl) (fun _ => Nat.le_of_ble_eq_true rfl) (Or.inl rfl) ?_

  refine rr_aload_n (pc := 0) dX7_isTaken_0 rfl ?_
  refine rr_aload_n (pc := 1) dX7_isTaken_1 rfl ?_
  refine rr_inv0 (M' := MX7_isWord) (k := 116) (As := [_]) (pc := 2) dX7_isTaken_2 lX7_138 kX7_isWord vX7_isWord zk_116 (by decide) rfl (by decide) (by decide) (Nat.le_of_ble_eq_true rfl) rfl (eX7_isWordB h ?_)
  refine rr_istore_n (pc := 5) dX7_isTaken_5 (by decide) ?_
  refine rr_iload_n (pc := 6) dX7_isTaken_6 rfl ?_
  refine rr_if_eq (pc := 7) (tgt := 14) dX7_isTaken_7 (by decide) (by unfold zR; omega) (fun h7 => ?_) (fun h7 => ?_)
  · refine rr_iload_n (pc := 14) dX7_isTaken_14 rfl ?_
    exact rr_reti (pc := 15) dX7_isTaken_15 rfl rfl rfl rfl (hq)
  · exact absurd rfl h7
theorem zN_Court : 0 < wCourt.length := by decide
theorem eW_Court {W : zWd} {B : Nat → Int} {N : Nat} {d : Int} {r : zRs} {Q : Option Value → zWd → Prop} {X : zX} (h : zMR W B N d r) (hq : Q (some (zI (if sWr B N wCourt r = true then 1 else 0))) W) : Ev MX7_isWord 4 0 W [.ref 116, .ref 1011] Q X := eX7_isWord (i := 11) h zS_11 zO_11 zN_Court hq
theorem eG_Court {W : zWd} {B : Nat → Int} {N p : Nat} {d : Int} {a : Int → Int} {Q : Option Value → zWd → Prop} {X : zX} (h : zMR W B N d (.inr (p, a))) (hq : Q (some (zI (if sW B N p wCourt = true then 1 else 0))) W) : Ev MX7_isWord 4 0 W [.ref 116, .ref 1011] Q X := eX7_isWordG (i := 11) h zS_11 zO_11 zN_Court hq
theorem eT_Court {W : zWd} {B : Nat → Int} {N p : Nat} {d : Int} {a : Int → Int} {Q : Option Value → zWd → Prop} {X : zX} (h : zMR W B N d (.inr (p, a))) (hq0 : ¬ sW B N p wCourt = true → Q (some (zI 0)) W) (hq1 : sW B N p wCourt = true → ∀ W' : zWd, zOfR W W' → zMR W' B N d (.inr (adv B N p, a)) → Q (some (zI 1)) W') : Ev MX7_isTaken 5 0 W [.ref 116, .ref 1011] Q X := eX7_isTakenG (i := 11) h zS_11 zO_11 zN_Court hq0 hq1
theorem zN_One : 0 < wOne.length := by decide
theorem eW_One {W : zWd} {B : Nat → Int} {N : Nat} {d : Int} {r : zRs} {Q : Option Value → zWd → Prop} {X : zX} (h : zMR W B N d r) (hq : Q (some (zI (if sWr B N wOne r = true then 1 else 0))) W) : Ev MX7_isWord 4 0 W [.ref 116, .ref 1012] Q X := eX7_isWord (i := 12) h zS_12 zO_12 zN_One hq
theorem eG_One {W : zWd} {B : Nat → Int} {N p : Nat} {d : Int} {a : Int → Int} {Q : Option Value → zWd → Prop} {X : zX} (h : zMR W B N d (.inr (p, a))) (hq : Q (some (zI (if sW B N p wOne = true then 1 else 0))) W) : Ev MX7_isWord 4 0 W [.ref 116, .ref 1012] Q X := eX7_isWordG (i := 12) h zS_12 zO_12 zN_One hq
theorem eT_One {W : zWd} {B : Nat → Int} {N p : Nat} {d : Int} {a : Int → Int} {Q : Option Value → zWd → Prop} {X : zX} (h : zMR W B N d (.inr (p, a))) (hq0 : ¬ sW B N p wOne = true → Q (some (zI 0)) W) (hq1 : sW B N p wOne = true → ∀ W' : zWd, zOfR W W' → zMR W' B N d (.inr (adv B N p, a)) → Q (some (zI 1)) W') : Ev MX7_isTaken 5 0 W [.ref 116, .ref 1012] Q X := eX7_isTakenG (i := 12) h zS_12 zO_12 zN_One hq0 hq1
theorem zN_Two : 0 < wTwo.length := by decide
theorem eW_Two {W : zWd} {B : Nat → Int} {N : Nat} {d : Int} {r : zRs} {Q : Option Value → zWd → Prop} {X : zX} (h : zMR W B N d r) (hq : Q (some (zI (if sWr B N wTwo r = true then 1 else 0))) W) : Ev MX7_isWord 4 0 W [.ref 116, .ref 1013] Q X := eX7_isWord (i := 13) h zS_13 zO_13 zN_Two hq
theorem eG_Two {W : zWd} {B : Nat → Int} {N p : Nat} {d : Int} {a : Int → Int} {Q : Option Value → zWd → Prop} {X : zX} (h : zMR W B N d (.inr (p, a))) (hq : Q (some (zI (if sW B N p wTwo = true then 1 else 0))) W) : Ev MX7_isWord 4 0 W [.ref 116, .ref 1013] Q X := eX7_isWordG (i := 13) h zS_13 zO_13 zN_Two hq
theorem eT_Two {W : zWd} {B : Nat → Int} {N p : Nat} {d : Int} {a : Int → Int} {Q : Option Value → zWd → Prop} {X : zX} (h : zMR W B N d (.inr (p, a))) (hq0 : ¬ sW B N p wTwo = true → Q (some (zI 0)) W) (hq1 : sW B N p wTwo = true → ∀ W' : zWd, zOfR W W' → zMR W' B N d (.inr (adv B N p, a)) → Q (some (zI 1)) W') : Ev MX7_isTaken 5 0 W [.ref 116, .ref 1013] Q X := eX7_isTakenG (i := 13) h zS_13 zO_13 zN_Two hq0 hq1
theorem zN_Drift : 0 < wDrift.length := by decide
theorem eW_Drift {W : zWd} {B : Nat → Int} {N : Nat} {d : Int} {r : zRs} {Q : Option Value → zWd → Prop} {X : zX} (h : zMR W B N d r) (hq : Q (some (zI (if sWr B N wDrift r = true then 1 else 0))) W) : Ev MX7_isWord 4 0 W [.ref 116, .ref 1014] Q X := eX7_isWord (i := 14) h zS_14 zO_14 zN_Drift hq
theorem eG_Drift {W : zWd} {B : Nat → Int} {N p : Nat} {d : Int} {a : Int → Int} {Q : Option Value → zWd → Prop} {X : zX} (h : zMR W B N d (.inr (p, a))) (hq : Q (some (zI (if sW B N p wDrift = true then 1 else 0))) W) : Ev MX7_isWord 4 0 W [.ref 116, .ref 1014] Q X := eX7_isWordG (i := 14) h zS_14 zO_14 zN_Drift hq
theorem eT_Drift {W : zWd} {B : Nat → Int} {N p : Nat} {d : Int} {a : Int → Int} {Q : Option Value → zWd → Prop} {X : zX} (h : zMR W B N d (.inr (p, a))) (hq0 : ¬ sW B N p wDrift = true → Q (some (zI 0)) W) (hq1 : sW B N p wDrift = true → ∀ W' : zWd, zOfR W W' → zMR W' B N d (.inr (adv B N p, a)) → Q (some (zI 1)) W') : Ev MX7_isTaken 5 0 W [.ref 116, .ref 1014] Q X := eX7_isTakenG (i := 14) h zS_14 zO_14 zN_Drift hq0 hq1
theorem zN_Player : 0 < wPlayer.length := by decide
theorem eW_Player {W : zWd} {B : Nat → Int} {N : Nat} {d : Int} {r : zRs} {Q : Option Value → zWd → Prop} {X : zX} (h : zMR W B N d r) (hq : Q (some (zI (if sWr B N wPlayer r = true then 1 else 0))) W) : Ev MX7_isWord 4 0 W [.ref 116, .ref 1015] Q X := eX7_isWord (i := 15) h zS_15 zO_15 zN_Player hq
theorem eG_Player {W : zWd} {B : Nat → Int} {N p : Nat} {d : Int} {a : Int → Int} {Q : Option Value → zWd → Prop} {X : zX} (h : zMR W B N d (.inr (p, a))) (hq : Q (some (zI (if sW B N p wPlayer = true then 1 else 0))) W) : Ev MX7_isWord 4 0 W [.ref 116, .ref 1015] Q X := eX7_isWordG (i := 15) h zS_15 zO_15 zN_Player hq
theorem eT_Player {W : zWd} {B : Nat → Int} {N p : Nat} {d : Int} {a : Int → Int} {Q : Option Value → zWd → Prop} {X : zX} (h : zMR W B N d (.inr (p, a))) (hq0 : ¬ sW B N p wPlayer = true → Q (some (zI 0)) W) (hq1 : sW B N p wPlayer = true → ∀ W' : zWd, zOfR W W' → zMR W' B N d (.inr (adv B N p, a)) → Q (some (zI 1)) W') : Ev MX7_isTaken 5 0 W [.ref 116, .ref 1015] Q X := eX7_isTakenG (i := 15) h zS_15 zO_15 zN_Player hq0 hq1
theorem zN_Reach : 0 < wReach.length := by decide
theorem eW_Reach {W : zWd} {B : Nat → Int} {N : Nat} {d : Int} {r : zRs} {Q : Option Value → zWd → Prop} {X : zX} (h : zMR W B N d r) (hq : Q (some (zI (if sWr B N wReach r = true then 1 else 0))) W) : Ev MX7_isWord 4 0 W [.ref 116, .ref 1016] Q X := eX7_isWord (i := 16) h zS_16 zO_16 zN_Reach hq
theorem eG_Reach {W : zWd} {B : Nat → Int} {N p : Nat} {d : Int} {a : Int → Int} {Q : Option Value → zWd → Prop} {X : zX} (h : zMR W B N d (.inr (p, a))) (hq : Q (some (zI (if sW B N p wReach = true then 1 else 0))) W) : Ev MX7_isWord 4 0 W [.ref 116, .ref 1016] Q X := eX7_isWordG (i := 16) h zS_16 zO_16 zN_Reach hq
theorem eT_Reach {W : zWd} {B : Nat → Int} {N p : Nat} {d : Int} {a : Int → Int} {Q : Option Value → zWd → Prop} {X : zX} (h : zMR W B N d (.inr (p, a))) (hq0 : ¬ sW B N p wReach = true → Q (some (zI 0)) W) (hq1 : sW B N p wReach = true → ∀ W' : zWd, zOfR W W' → zMR W' B N d (.inr (adv B N p, a)) → Q (some (zI 1)) W') : Ev MX7_isTaken 5 0 W [.ref 116, .ref 1016] Q X := eX7_isTakenG (i := 16) h zS_16 zO_16 zN_Reach hq0 hq1
theorem zN_Balance : 0 < wBalance.length := by decide
theorem eW_Balance {W : zWd} {B : Nat → Int} {N : Nat} {d : Int} {r : zRs} {Q : Option Value → zWd → Prop} {X : zX} (h : zMR W B N d r) (hq : Q (some (zI (if sWr B N wBalance r = true then 1 else 0))) W) : Ev MX7_isWord 4 0 W [.ref 116, .ref 1017] Q X := eX7_isWord (i := 17) h zS_17 zO_17 zN_Balance hq
theorem eG_Balance {W : zWd} {B : Nat → Int} {N p : Nat} {d : Int} {a : Int → Int} {Q : Option Value → zWd → Prop} {X : zX} (h : zMR W B N d (.inr (p, a))) (hq : Q (some (zI (if sW B N p wBalance = true then 1 else 0))) W) : Ev MX7_isWord 4 0 W [.ref 116, .ref 1017] Q X := eX7_isWordG (i := 17) h zS_17 zO_17 zN_Balance hq
theorem eT_Balance {W : zWd} {B : Nat → Int} {N p : Nat} {d : Int} {a : Int → Int} {Q : Option Value → zWd → Prop} {X : zX} (h : zMR W B N d (.inr (p, a))) (hq0 : ¬ sW B N p wBalance = true → Q (some (zI 0)) W) (hq1 : sW B N p wBalance = true → ∀ W' : zWd, zOfR W W' → zMR W' B N d (.inr (adv B N p, a)) → Q (some (zI 1)) W') : Ev MX7_isTaken 5 0 W [.ref 116, .ref 1017] Q X := eX7_isTakenG (i := 17) h zS_17 zO_17 zN_Balance hq0 hq1
theorem zN_Target : 0 < wTarget.length := by decide
theorem eW_Target {W : zWd} {B : Nat → Int} {N : Nat} {d : Int} {r : zRs} {Q : Option Value → zWd → Prop} {X : zX} (h : zMR W B N d r) (hq : Q (some (zI (if sWr B N wTarget r = true then 1 else 0))) W) : Ev MX7_isWord 4 0 W [.ref 116, .ref 1018] Q X := eX7_isWord (i := 18) h zS_18 zO_18 zN_Target hq
theorem eG_Target {W : zWd} {B : Nat → Int} {N p : Nat} {d : Int} {a : Int → Int} {Q : Option Value → zWd → Prop} {X : zX} (h : zMR W B N d (.inr (p, a))) (hq : Q (some (zI (if sW B N p wTarget = true then 1 else 0))) W) : Ev MX7_isWord 4 0 W [.ref 116, .ref 1018] Q X := eX7_isWordG (i := 18) h zS_18 zO_18 zN_Target hq
theorem eT_Target {W : zWd} {B : Nat → Int} {N p : Nat} {d : Int} {a : Int → Int} {Q : Option Value → zWd → Prop} {X : zX} (h : zMR W B N d (.inr (p, a))) (hq0 : ¬ sW B N p wTarget = true → Q (some (zI 0)) W) (hq1 : sW B N p wTarget = true → ∀ W' : zWd, zOfR W W' → zMR W' B N d (.inr (adv B N p, a)) → Q (some (zI 1)) W') : Ev MX7_isTaken 5 0 W [.ref 116, .ref 1018] Q X := eX7_isTakenG (i := 18) h zS_18 zO_18 zN_Target hq0 hq1
theorem zN_Claims : 0 < wClaims.length := by decide
theorem eW_Claims {W : zWd} {B : Nat → Int} {N : Nat} {d : Int} {r : zRs} {Q : Option Value → zWd → Prop} {X : zX} (h : zMR W B N d r) (hq : Q (some (zI (if sWr B N wClaims r = true then 1 else 0))) W) : Ev MX7_isWord 4 0 W [.ref 116, .ref 1019] Q X := eX7_isWord (i := 19) h zS_19 zO_19 zN_Claims hq
theorem eG_Claims {W : zWd} {B : Nat → Int} {N p : Nat} {d : Int} {a : Int → Int} {Q : Option Value → zWd → Prop} {X : zX} (h : zMR W B N d (.inr (p, a))) (hq : Q (some (zI (if sW B N p wClaims = true then 1 else 0))) W) : Ev MX7_isWord 4 0 W [.ref 116, .ref 1019] Q X := eX7_isWordG (i := 19) h zS_19 zO_19 zN_Claims hq
theorem eT_Claims {W : zWd} {B : Nat → Int} {N p : Nat} {d : Int} {a : Int → Int} {Q : Option Value → zWd → Prop} {X : zX} (h : zMR W B N d (.inr (p, a))) (hq0 : ¬ sW B N p wClaims = true → Q (some (zI 0)) W) (hq1 : sW B N p wClaims = true → ∀ W' : zWd, zOfR W W' → zMR W' B N d (.inr (adv B N p, a)) → Q (some (zI 1)) W') : Ev MX7_isTaken 5 0 W [.ref 116, .ref 1019] Q X := eX7_isTakenG (i := 19) h zS_19 zO_19 zN_Claims hq0 hq1
theorem zN_Owns : 0 < wOwns.length := by decide
theorem eW_Owns {W : zWd} {B : Nat → Int} {N : Nat} {d : Int} {r : zRs} {Q : Option Value → zWd → Prop} {X : zX} (h : zMR W B N d r) (hq : Q (some (zI (if sWr B N wOwns r = true then 1 else 0))) W) : Ev MX7_isWord 4 0 W [.ref 116, .ref 1020] Q X := eX7_isWord (i := 20) h zS_20 zO_20 zN_Owns hq
theorem eG_Owns {W : zWd} {B : Nat → Int} {N p : Nat} {d : Int} {a : Int → Int} {Q : Option Value → zWd → Prop} {X : zX} (h : zMR W B N d (.inr (p, a))) (hq : Q (some (zI (if sW B N p wOwns = true then 1 else 0))) W) : Ev MX7_isWord 4 0 W [.ref 116, .ref 1020] Q X := eX7_isWordG (i := 20) h zS_20 zO_20 zN_Owns hq
theorem eT_Owns {W : zWd} {B : Nat → Int} {N p : Nat} {d : Int} {a : Int → Int} {Q : Option Value → zWd → Prop} {X : zX} (h : zMR W B N d (.inr (p, a))) (hq0 : ¬ sW B N p wOwns = true → Q (some (zI 0)) W) (hq1 : sW B N p wOwns = true → ∀ W' : zWd, zOfR W W' → zMR W' B N d (.inr (adv B N p, a)) → Q (some (zI 1)) W') : Ev MX7_isTaken 5 0 W [.ref 116, .ref 1020] Q X := eX7_isTakenG (i := 20) h zS_20 zO_20 zN_Owns hq0 hq1
theorem zN_Marker : 0 < wMarker.length := by decide
theorem eW_Marker {W : zWd} {B : Nat → Int} {N : Nat} {d : Int} {r : zRs} {Q : Option Value → zWd → Prop} {X : zX} (h : zMR W B N d r) (hq : Q (some (zI (if sWr B N wMarker r = true then 1 else 0))) W) : Ev MX7_isWord 4 0 W [.ref 116, .ref 1021] Q X := eX7_isWord (i := 21) h zS_21 zO_21 zN_Marker hq
theorem eG_Marker {W : zWd} {B : Nat → Int} {N p : Nat} {d : Int} {a : Int → Int} {Q : Option Value → zWd → Prop} {X : zX} (h : zMR W B N d (.inr (p, a))) (hq : Q (some (zI (if sW B N p wMarker = true then 1 else 0))) W) : Ev MX7_isWord 4 0 W [.ref 116, .ref 1021] Q X := eX7_isWordG (i := 21) h zS_21 zO_21 zN_Marker hq
theorem eT_Marker {W : zWd} {B : Nat → Int} {N p : Nat} {d : Int} {a : Int → Int} {Q : Option Value → zWd → Prop} {X : zX} (h : zMR W B N d (.inr (p, a))) (hq0 : ¬ sW B N p wMarker = true → Q (some (zI 0)) W) (hq1 : sW B N p wMarker = true → ∀ W' : zWd, zOfR W W' → zMR W' B N d (.inr (adv B N p, a)) → Q (some (zI 1)) W') : Ev MX7_isTaken 5 0 W [.ref 116, .ref 1021] Q X := eX7_isTakenG (i := 21) h zS_21 zO_21 zN_Marker hq0 hq1
theorem eWB {W : zWd} {d c : Int} {p i : Nat} {Q : Option Value → zWd → Prop} {X : zX} (h : zBd W d c p) (hi : 1000 ≤ i) (hq : Q (some (zI 0)) W) : Ev MX7_isWord 4 0 W [.ref 116, .ref i] Q X := by
  obtain ⟨j, rfl⟩ : ∃ j, i = 1000 + j := ⟨i - 1000, by omega⟩
  exact eX7_isWordB h hq
theorem eTB {W : zWd} {d c : Int} {p i : Nat} {Q : Option Value → zWd → Prop} {X : zX} (h : zBd W d c p) (hi : 1000 ≤ i) (hq : Q (some (zI 0)) W) : Ev MX7_isTaken 5 0 W [.ref 116, .ref i] Q X := by
  obtain ⟨j, rfl⟩ : ∃ j, i = 1000 + j := ⟨i - 1000, by omega⟩
  exact eX7_isTakenB h hq
def sIr (B : Nat → Int) (N : Nat) (r : zRs) : Bool := sWr B N wOne r || sWr B N wTwo r
theorem dX7_isRow_0 : decode cX7_isRow 0 = .ok (.aload_n 0, 1) := by decide +kernel
theorem dX7_isRow_1 : decode cX7_isRow 1 = .ok (.ldc 142, 2) := by decide +kernel
theorem dX7_isRow_3 : decode cX7_isRow 3 = .ok (.invokevirtual 138, 3) := by decide +kernel
theorem dX7_isRow_6 : decode cX7_isRow 6 = .ok (.ifCond .ne 12, 3) := by decide +kernel
theorem dX7_isRow_9 : decode cX7_isRow 9 = .ok (.aload_n 0, 1) := by decide +kernel
theorem dX7_isRow_10 : decode cX7_isRow 10 = .ok (.ldc 144, 2) := by decide +kernel
theorem dX7_isRow_12 : decode cX7_isRow 12 = .ok (.invokevirtual 138, 3) := by decide +kernel
theorem dX7_isRow_15 : decode cX7_isRow 15 = .ok (.ifCond .eq 7, 3) := by decide +kernel
theorem dX7_isRow_18 : decode cX7_isRow 18 = .ok (.iconst 1, 1) := by decide +kernel
theorem dX7_isRow_19 : decode cX7_isRow 19 = .ok (.goto 4, 3) := by decide +kernel
theorem dX7_isRow_22 : decode cX7_isRow 22 = .ok (.iconst 0, 1) := by decide +kernel
theorem dX7_isRow_23 : decode cX7_isRow 23 = .ok (.ireturn, 1) := by decide +kernel
theorem eX7_isRow {W : zWd} {B : Nat → Int} {N : Nat} {d : Int} {r : zRs}  {Q : Option Value → zWd → Prop} {X : zX} (h : zMR W B N d r) (hq : Q (some (zI (if sIr B N r = true then 1 else 0))) W) : Ev MX7_isRow 5 0 W [.ref 116] Q X := by
  refine ev_of (ls := [.ref 116]) (by decide) rfl (fun _ => rfl) (fun _ => Nat.le_of_ble_eq_true rfl) (Or.inl rfl) ?_
  refine rr_aload_n (pc := 0) dX7_isRow_0 rfl ?_
  refine rr_ldcs (pc := 1) 12 dX7_isRow_1 rfl ?_
  refine rr_inv0 (M' := MX7_isWord) (k := 116) (As := [_]) (pc := 3) dX7_isRow_3 lX7_138 kX7_isWord vX7_isWord zk_116 (by decide) rfl (by decide) (by decide) (Nat.le_of_ble_eq_true rfl) rfl (eW_One h ?_)
  refine rr_if_ne (pc := 6) (tgt := 18) dX7_isRow_6 (by decide) (by split <;> (unfold zR; omega)) (fun h6 => ?_) (fun h6 => ?_)
  · refine rr_iconst (n := 1) dX7_isRow_18 ?_
    refine rr_goto (pc := 19) (tgt := 23) dX7_isRow_19 (by decide) ?_
    exact rr_reti (pc := 23) dX7_isRow_23 rfl rfl (if_pos (by unfold sIr; rw [z_i10n h6]; rfl)).symm rfl (hq)
  · refine rr_aload_n (pc := 9) dX7_isRow_9 rfl ?_
    refine rr_ldcs (pc := 10) 13 dX7_isRow_10 rfl ?_
    refine rr_inv0 (M' := MX7_isWord) (k := 116) (As := [_]) (pc := 12) dX7_isRow_12 lX7_138 kX7_isWord vX7_isWord zk_116 (by decide) rfl (by decide) (by decide) (Nat.le_of_ble_eq_true rfl) rfl (eW_Two h ?_)
    refine rr_if_eq (pc := 15) (tgt := 22) dX7_isRow_15 (by decide) (by split <;> (unfold zR; omega)) (fun h15 => ?_) (fun h15 => ?_)
    · refine rr_iconst (n := 0) dX7_isRow_22 ?_
      exact rr_reti (pc := 23) dX7_isRow_23 rfl rfl (if_neg (by unfold sIr; rw [Bool.or_eq_true]; exact fun z => z.elim (z_i10 (by omega)) (z_i10 (by omega)))).symm rfl (hq)
    · refine rr_iconst (n := 1) dX7_isRow_18 ?_
      refine rr_goto (pc := 19) (tgt := 23) dX7_isRow_19 (by decide) ?_
      exact rr_reti (pc := 23) dX7_isRow_23 rfl rfl (if_pos (by unfold sIr; rw [z_i10n h15, Bool.or_true])).symm rfl (hq)
def sRow1 (B : Nat → Int) (N p : Nat) (a : Int → Int) : zRs := if sWide B N p = 0 then .inl (-2, p) else if a 0 = 10 then .inl (-5, p) else .inr (adv B N p, aRow a (sWide B N p))
theorem sWide_row {B : Nat → Int} {N p : Nat} {a : Int → Int} : sIr B N (.inr (p, a)) = true ↔ sWide B N p ≠ 0 := by
  unfold sIr sWr sWide
  show (sW B N p wOne || sW B N p wTwo) = true ↔ _
  cases sW B N p wOne <;> cases sW B N p wTwo <;> simp
theorem zRw.up {W W' : zWd} {d i v : Int} {a : Int → Int} (h : zRw W d a) (e : W' 117 = iup (W 117) i v) (hi : i ≠ 2) : zRw W' d (iup a i v) := by
  unfold zRw at *
  rw [e, iup_n (show (2 : Int) ≠ i by omega), iup_n (show (2 : Int) ≠ i by omega)]
  refine ⟨fun j h0 h1 h2 => ?_, h.2⟩
  unfold iup
  split
  · rfl
  · exact h.1 j h0 h1 h2
theorem zGd.m {W W' : zWd} {B : Nat → Int} {N p : Nat} (h : zGd W B N p) (o : zOfm W W') : zGd W' B N p := by
  have e := o 116 (by decide)
  refine ⟨h.1.o (by rw [e]) (o 123 (by decide)), ?_, by rw [e]; exact h.2.2⟩
  have h2 := h.2.1
  unfold zMk at *
  rw [e]; exact h2
theorem zPs.up {a : Int → Int} {i v : Int} (h : zPs a) (hp : zPf (iup a i v)) (h1 : -1000 ≤ v) (h2 : v ≤ 1000) : zPs (iup a i v) := ⟨hp, fun j g1 g2 => by unfold iup; split; omega; exact h.2 j g1 g2⟩
theorem zPs.row {a : Int → Int} {w : Int} (h : zPs a) (h9 : a 0 < 10) (h1 : 1 ≤ w) (h2 : w ≤ 2) : zPs (aRow a w) := by
  have hq := h.1.sq
  refine ⟨aRow_pf h.1 h9 h1 h2, fun j g1 g2 => ?_⟩
  have := h.2 j g1 g2
  unfold aRow iup
  (repeat' split) <;> omega
theorem dX7_readsRow_0 : decode cX7_readsRow 0 = .ok (.aload_n 0, 1) := by decide +kernel
theorem dX7_readsRow_1 : decode cX7_readsRow 1 = .ok (.invokevirtual 146, 3) := by decide +kernel
theorem dX7_readsRow_4 : decode cX7_readsRow 4 = .ok (.ifCond .eq 20, 3) := by decide +kernel
theorem dX7_readsRow_7 : decode cX7_readsRow 7 = .ok (.aload_n 0, 1) := by decide +kernel
theorem dX7_readsRow_8 : decode cX7_readsRow 8 = .ok (.getfield 7, 3) := by decide +kernel
theorem dX7_readsRow_11 : decode cX7_readsRow 11 = .ok (.iconst 0, 1) := by decide +kernel
theorem dX7_readsRow_12 : decode cX7_readsRow 12 = .ok (.iaload, 1) := by decide +kernel
theorem dX7_readsRow_13 : decode cX7_readsRow 13 = .ok (.bipush 10, 2) := by decide +kernel
theorem dX7_readsRow_15 : decode cX7_readsRow 15 = .ok (.if_icmp .ne 9, 3) := by decide +kernel
theorem dX7_readsRow_18 : decode cX7_readsRow 18 = .ok (.aload_n 0, 1) := by decide +kernel
theorem dX7_readsRow_19 : decode cX7_readsRow 19 = .ok (.bipush (-5), 2) := by decide +kernel
theorem dX7_readsRow_21 : decode cX7_readsRow 21 = .ok (.invokevirtual 129, 3) := by decide +kernel
theorem dX7_readsRow_24 : decode cX7_readsRow 24 = .ok (.aload_n 0, 1) := by decide +kernel
theorem dX7_readsRow_25 : decode cX7_readsRow 25 = .ok (.ldc 144, 2) := by decide +kernel
theorem dX7_readsRow_27 : decode cX7_readsRow 27 = .ok (.invokevirtual 138, 3) := by decide +kernel
theorem dX7_readsRow_30 : decode cX7_readsRow 30 = .ok (.ifCond .eq 7, 3) := by decide +kernel
theorem dX7_readsRow_33 : decode cX7_readsRow 33 = .ok (.iconst 2, 1) := by decide +kernel
theorem dX7_readsRow_34 : decode cX7_readsRow 34 = .ok (.goto 4, 3) := by decide +kernel
theorem dX7_readsRow_37 : decode cX7_readsRow 37 = .ok (.iconst 1, 1) := by decide +kernel
theorem dX7_readsRow_38 : decode cX7_readsRow 38 = .ok (.istore_n 1, 1) := by decide +kernel
theorem dX7_readsRow_39 : decode cX7_readsRow 39 = .ok (.aload_n 0, 1) := by decide +kernel
theorem dX7_readsRow_40 : decode cX7_readsRow 40 = .ok (.aload_n 0, 1) := by decide +kernel
theorem dX7_readsRow_41 : decode cX7_readsRow 41 = .ok (.invokevirtual 146, 3) := by decide +kernel
theorem dX7_readsRow_44 : decode cX7_readsRow 44 = .ok (.invokevirtual 150, 3) := by decide +kernel
theorem dX7_readsRow_47 : decode cX7_readsRow 47 = .ok (.aload_n 0, 1) := by decide +kernel
theorem dX7_readsRow_48 : decode cX7_readsRow 48 = .ok (.getfield 113, 3) := by decide +kernel
theorem dX7_readsRow_51 : decode cX7_readsRow 51 = .ok (.ifCond .eq 4, 3) := by decide +kernel
theorem dX7_readsRow_54 : decode cX7_readsRow 54 = .ok (.return_, 1) := by decide +kernel
theorem dX7_readsRow_55 : decode cX7_readsRow 55 = .ok (.aload_n 0, 1) := by decide +kernel
theorem dX7_readsRow_56 : decode cX7_readsRow 56 = .ok (.getfield 7, 3) := by decide +kernel
theorem dX7_readsRow_59 : decode cX7_readsRow 59 = .ok (.bipush 8, 2) := by decide +kernel
theorem dX7_readsRow_61 : decode cX7_readsRow 61 = .ok (.aload_n 0, 1) := by decide +kernel
theorem dX7_readsRow_62 : decode cX7_readsRow 62 = .ok (.getfield 7, 3) := by decide +kernel
theorem dX7_readsRow_65 : decode cX7_readsRow 65 = .ok (.iconst 0, 1) := by decide +kernel
theorem dX7_readsRow_66 : decode cX7_readsRow 66 = .ok (.iaload, 1) := by decide +kernel
theorem dX7_readsRow_67 : decode cX7_readsRow 67 = .ok (.iadd, 1) := by decide +kernel
theorem dX7_readsRow_68 : decode cX7_readsRow 68 = .ok (.iload_n 1, 1) := by decide +kernel
theorem dX7_readsRow_69 : decode cX7_readsRow 69 = .ok (.iastore, 1) := by decide +kernel
theorem dX7_readsRow_70 : decode cX7_readsRow 70 = .ok (.aload_n 0, 1) := by decide +kernel
theorem dX7_readsRow_71 : decode cX7_readsRow 71 = .ok (.getfield 7, 3) := by decide +kernel
theorem dX7_readsRow_74 : decode cX7_readsRow 74 = .ok (.iconst 0, 1) := by decide +kernel
theorem dX7_readsRow_75 : decode cX7_readsRow 75 = .ok (.dup2, 1) := by decide +kernel
theorem dX7_readsRow_76 : decode cX7_readsRow 76 = .ok (.iaload, 1) := by decide +kernel
theorem dX7_readsRow_77 : decode cX7_readsRow 77 = .ok (.iconst 1, 1) := by decide +kernel
theorem dX7_readsRow_78 : decode cX7_readsRow 78 = .ok (.iadd, 1) := by decide +kernel
theorem dX7_readsRow_79 : decode cX7_readsRow 79 = .ok (.iastore, 1) := by decide +kernel
theorem dX7_readsRow_80 : decode cX7_readsRow 80 = .ok (.aload_n 0, 1) := by decide +kernel
theorem dX7_readsRow_81 : decode cX7_readsRow 81 = .ok (.getfield 7, 3) := by decide +kernel
theorem dX7_readsRow_84 : decode cX7_readsRow 84 = .ok (.iconst 1, 1) := by decide +kernel
theorem dX7_readsRow_85 : decode cX7_readsRow 85 = .ok (.dup2, 1) := by decide +kernel
theorem dX7_readsRow_86 : decode cX7_readsRow 86 = .ok (.iaload, 1) := by decide +kernel
theorem dX7_readsRow_87 : decode cX7_readsRow 87 = .ok (.iload_n 1, 1) := by decide +kernel
theorem dX7_readsRow_88 : decode cX7_readsRow 88 = .ok (.iadd, 1) := by decide +kernel
theorem dX7_readsRow_89 : decode cX7_readsRow 89 = .ok (.iastore, 1) := by decide +kernel
theorem dX7_readsRow_90 : decode cX7_readsRow 90 = .ok (.return_, 1) := by decide +kernel
theorem eX7_readsRowB {W : zWd} {d c : Int} {p : Nat} {Q : Option Value → zWd → Prop} {X : zX} (h : zBd W d c p) (hq : Q none W) : Ev MX7_readsRow 6 0 W [.ref 116] Q X := by
  refine ev_of (ls := [.ref 116, .null]) (by decide) rfl (fun _ => rfl) (fun _ => Nat.le_of_ble_eq_true rfl) (Or.inl rfl) ?_

  refine rr_aload_n (pc := 0) dX7_readsRow_0 rfl ?_
  refine rr_inv0 (M' := MX7_isRow) (k := 116) (As := []) (pc := 1) dX7_readsRow_1 lX7_146 kX7_isRow vX7_isRow zk_116 (by decide) rfl (by decide) (by decide) (Nat.le_of_ble_eq_true rfl) rfl (eX7_isRow (r := .inl (c, p)) (B := fun _ => 0) (N := 0) h ?_)
  refine rr_if_eq (pc := 4) (tgt := 24) dX7_readsRow_4 (by decide) (by split <;> (unfold zR; omega)) (fun h4 => ?_) (fun h4 => ?_)
  · refine rr_aload_n (pc := 24) dX7_readsRow_24 rfl ?_
    refine rr_ldcs (pc := 25) 13 dX7_readsRow_25 rfl ?_
    refine rr_inv0 (M' := MX7_isWord) (k := 116) (As := [_]) (pc := 27) dX7_readsRow_27 lX7_138 kX7_isWord vX7_isWord zk_116 (by decide) rfl (by decide) (by decide) (Nat.le_of_ble_eq_true rfl) rfl (eWB h (by decide) ?_)
    refine rr_if_eq (pc := 30) (tgt := 37) dX7_readsRow_30 (by decide) (by unfold zR; omega) (fun h30 => ?_) (fun h30 => ?_)
    · refine rr_iconst (n := 1) dX7_readsRow_37 ?_
      refine rr_istore_n (pc := 38) dX7_readsRow_38 (by decide) ?_
      refine rr_aload_n (pc := 39) dX7_readsRow_39 rfl ?_
      refine rr_aload_n (pc := 40) dX7_readsRow_40 rfl ?_
      refine rr_inv0 (M' := MX7_isRow) (k := 116) (As := []) (pc := 41) dX7_readsRow_41 lX7_146 kX7_isRow vX7_isRow zk_116 (by decide) rfl (by decide) (by decide) (Nat.le_of_ble_eq_true rfl) rfl (eX7_isRow (r := .inl (c, p)) (B := fun _ => 0) (N := 0) h ?_)
      refine rr_inv0 (M' := MX7_must) (k := 116) (As := [_]) (pc := 44) dX7_readsRow_44 lX7_150 kX7_must vX7_must zk_116 (by decide) rfl (by decide) (by decide) (Nat.le_of_ble_eq_true rfl) rfl (eX7_mustB h (by show zR 0; unfold zR; omega) ?_)
      refine rr_aload_n (pc := 47) dX7_readsRow_47 rfl ?_
      refine rr_getI (pc := 48) (ji := 14) dX7_readsRow_48 fX7_113 zk_116 zr_116_14 rfl ?_
      rw [h.1]
      refine rr_if_eq (pc := 51) (tgt := 55) dX7_readsRow_51 (by decide) (by have := h.2.1; have := h.2.2.1; unfold zR; omega) (fun h51 => ?_) (fun h51 => ?_)
      · exact absurd h51 (by have := h.2.2.1; omega)
      · exact rr_retv (pc := 54) dX7_readsRow_54 rfl rfl (hq)
    · exact (h30 rfl).elim
  · exact (h4 rfl).elim
theorem eX7_readsRowG {W : zWd} {B : Nat → Int} {N p : Nat} {a : Int → Int} {Q : Option Value → zWd → Prop} {X : zX} (h : zMR W B N 0 (.inr (p, a))) (hq : ∀ W' : zWd, zOfR W W' → zMR W' B N 0 (sRow1 B N p a) → Q none W') : Ev MX7_readsRow 6 0 W [.ref 116] Q X := by
  refine ev_of (ls := [.ref 116, .null]) (by decide) rfl (fun _ => rfl) (fun _ => Nat.le_of_ble_eq_true rfl) (Or.inl rfl) ?_
  have hG : zGd W B N p ∧ zRw W 0 a ∧ zPs a := h
  obtain ⟨⟨hT, hM, h14⟩, hRw, hPf⟩ := hG
  obtain ⟨m10, mpN, m11, m12, m13⟩ := id hM
  have h600 := hT.2.1
  have hed := sEd_rng (B := B) mpN
  have hkd := @sKd_rng B N p
  obtain ⟨p0, p0', pW, p1, p2, p2', p3, p3', p4, p5, p6, p7, pS, pP⟩ := id hPf.1
  have psq := hPf.1.sq
  have hrow := @sWide_row B N p a
  refine rr_aload_n (pc := 0) dX7_readsRow_0 rfl ?_
  refine rr_inv0 (M' := MX7_isRow) (k := 116) (As := []) (pc := 1) dX7_readsRow_1 lX7_146 kX7_isRow vX7_isRow zk_116 (by decide) rfl (by decide) (by decide) (Nat.le_of_ble_eq_true rfl) rfl (eX7_isRow h ?_)
  refine rr_if_eq (pc := 4) (tgt := 24) dX7_readsRow_4 (by decide) (by split <;> (unfold zR; omega)) (fun h4 => ?_) (fun h4 => ?_)
  · have hnr := z_i10 h4
    have hw0 : sWide B N p = 0 := Classical.byContradiction fun z => hnr (hrow.mpr z)
    have hn2 : ¬ sW B N p wTwo = true := fun z => by unfold sWide at hw0; rw [z] at hw0; (repeat' split at hw0) <;> simp at *
    have hS : sRow1 B N p a = .inl (-2, p) := if_pos hw0
    refine rr_aload_n (pc := 24) dX7_readsRow_24 rfl ?_
    refine rr_ldcs (pc := 25) 13 dX7_readsRow_25 rfl ?_
    refine rr_inv0 (M' := MX7_isWord) (k := 116) (As := [_]) (pc := 27) dX7_readsRow_27 lX7_138 kX7_isWord vX7_isWord zk_116 (by decide) rfl (by decide) (by decide) (Nat.le_of_ble_eq_true rfl) rfl (eG_Two h ?_)
    refine rr_if_eq (pc := 30) (tgt := 37) dX7_readsRow_30 (by decide) (by split <;> (unfold zR; omega)) (fun h30 => ?_) (fun h30 => ?_)
    · refine rr_iconst (n := 1) dX7_readsRow_37 ?_
      refine rr_istore_n (pc := 38) dX7_readsRow_38 (by decide) ?_
      refine rr_aload_n (pc := 39) dX7_readsRow_39 rfl ?_
      refine rr_aload_n (pc := 40) dX7_readsRow_40 rfl ?_
      refine rr_inv0 (M' := MX7_isRow) (k := 116) (As := []) (pc := 41) dX7_readsRow_41 lX7_146 kX7_isRow vX7_isRow zk_116 (by decide) rfl (by decide) (by decide) (Nat.le_of_ble_eq_true rfl) rfl (eX7_isRow h ?_)
      refine rr_inv0 (M' := MX7_must) (k := 116) (As := [_]) (pc := 44) dX7_readsRow_44 lX7_150 kX7_must vX7_must zk_116 (by decide) rfl (by decide) (by decide) (Nat.le_of_ble_eq_true rfl) rfl (eX7_must h (fun W1 o1 r1 => ?_))
      have r1 : zMR W1 B N 0 (.inl (-2, p)) := by
        have h9 : sMst B N (sIr B N (.inr (p, a))) (.inr (p, a)) = .inl (-2, p) := if_neg hnr
        rw [h9] at r1; exact r1
      have r9 : W1 116 14 = -2 := r1.1
      refine rr_aload_n (pc := 47) dX7_readsRow_47 rfl ?_
      refine rr_getI (pc := 48) (ji := 14) dX7_readsRow_48 fX7_113 zk_116 zr_116_14 rfl ?_
      rw [r9]
      refine rr_if_eq (pc := 51) (tgt := 55) dX7_readsRow_51 (by decide) (by unfold zR; omega) (fun h51 => ?_) (fun h51 => ?_)
      · exact absurd h51 (by decide)
      · exact rr_retv (pc := 54) dX7_readsRow_54 rfl rfl (hq W1 o1 (by rw [hS]; exact r1))
    · exact absurd (z_i10n h30) hn2
  · refine rr_aload_n (pc := 7) dX7_readsRow_7 rfl ?_
    refine rr_getR (pc := 8) dX7_readsRow_8 fX7_7 zk_116 zr_116_0 ?_
    refine rr_iconst (n := 0) dX7_readsRow_11 ?_
    refine rr_iald (pc := 12) dX7_readsRow_12 zk_117 (by omega) (by omega) ?_
    rw [hRw.1 0 (by omega) (by omega) (by omega)]
    refine rr_bipush (n := (10)) dX7_readsRow_13 ?_
    refine rr_icmp_ne (pc := 15) (tgt := 24) dX7_readsRow_15 (by decide) (by unfold zR; omega) (by unfold zR; omega) (fun h15 => ?_) (fun h15 => ?_)
    · have hir := z_i10n h4
      have hir2 := hrow.mp hir
      have hlt : a 0 < 10 := by omega
      have hS : sRow1 B N p a = .inr (adv B N p, aRow a (sWide B N p)) := by unfold sRow1; rw [if_neg hir2, if_neg (by omega)]
      have hkd0 : sKd B N p = 0 := by
        have h9 := hir
        unfold sIr at h9
        rw [Bool.or_eq_true] at h9
        exact h9.elim (fun z => sW_kd zN_One z) (fun z => sW_kd zN_Two z)
      refine rr_aload_n (pc := 24) dX7_readsRow_24 rfl ?_
      refine rr_ldcs (pc := 25) 13 dX7_readsRow_25 rfl ?_
      refine rr_inv0 (M' := MX7_isWord) (k := 116) (As := [_]) (pc := 27) dX7_readsRow_27 lX7_138 kX7_isWord vX7_isWord zk_116 (by decide) rfl (by decide) (by decide) (Nat.le_of_ble_eq_true rfl) rfl (eG_Two h ?_)
      refine rr_if_eq (pc := 30) (tgt := 37) dX7_readsRow_30 (by decide) (by split <;> (unfold zR; omega)) (fun h30 => ?_) (fun h30 => ?_)
      · refine rr_iconst (n := 1) dX7_readsRow_37 ?_
        refine rr_istore_n (pc := 38) dX7_readsRow_38 (by decide) ?_
        have hn2 := z_i10 h30
        have hwd : sWide B N p = 1 := by
          unfold sWide at hir2 ⊢
          by_cases z : sW B N p wOne = true
          · rw [if_pos z]
          · rw [if_neg z, if_neg hn2] at hir2; exact absurd rfl hir2
        refine rr_aload_n (pc := 39) dX7_readsRow_39 rfl ?_
        refine rr_aload_n (pc := 40) dX7_readsRow_40 rfl ?_
        refine rr_inv0 (M' := MX7_isRow) (k := 116) (As := []) (pc := 41) dX7_readsRow_41 lX7_146 kX7_isRow vX7_isRow zk_116 (by decide) rfl (by decide) (by decide) (Nat.le_of_ble_eq_true rfl) rfl (eX7_isRow h ?_)
        refine rr_inv0 (M' := MX7_must) (k := 116) (As := [_]) (pc := 44) dX7_readsRow_44 lX7_150 kX7_must vX7_must zk_116 (by decide) rfl (by decide) (by decide) (Nat.le_of_ble_eq_true rfl) rfl (eX7_must h (fun W1 o1 r1 => ?_))
        have r1 : zMR W1 B N 0 (.inr (adv B N p, a)) := by
          have h9 : sMst B N (sIr B N (.inr (p, a))) (.inr (p, a)) = .inr (sSk B N (sEd B N p), a) := if_pos hir
          rw [h9, sEd_w hkd0] at r1; exact r1
        obtain ⟨⟨q1, q2, q3⟩, q4, q5⟩ : zGd W1 B N (adv B N p) ∧ zRw W1 0 a ∧ zPs a := r1
        have e0 := q4.1 0 (by omega) (by omega) (by omega)
        have e1 := q4.1 1 (by omega) (by omega) (by omega)
        refine rr_aload_n (pc := 47) dX7_readsRow_47 rfl ?_
        refine rr_getI (pc := 48) (ji := 14) dX7_readsRow_48 fX7_113 zk_116 zr_116_14 rfl ?_
        rw [q3]
        refine rr_if_eq (pc := 51) (tgt := 55) dX7_readsRow_51 (by decide) (by unfold zR; omega) (fun h51 => ?_) (fun h51 => ?_)
        · refine rr_aload_n (pc := 55) dX7_readsRow_55 rfl ?_
          refine rr_getR (pc := 56) dX7_readsRow_56 fX7_7 zk_116 zr_116_0 ?_
          refine rr_bipush (n := (8)) dX7_readsRow_59 ?_
          refine rr_aload_n (pc := 61) dX7_readsRow_61 rfl ?_
          refine rr_getR (pc := 62) dX7_readsRow_62 fX7_7 zk_116 zr_116_0 ?_
          refine rr_iconst (n := 0) dX7_readsRow_65 ?_
          refine rr_iald (pc := 66) dX7_readsRow_66 zk_117 (by omega) (by omega) ?_
          rw [e0]
          refine rr_iadd (pc := 67) dX7_readsRow_67 ?_
          refine rr_iload_n (pc := 68) dX7_readsRow_68 rfl ?_
          refine rr_iast (pc := 69) dX7_readsRow_69 zk_117 (by omega) (by omega) ?_
          refine rr_aload_n (pc := 70) dX7_readsRow_70 rfl ?_
          refine rr_getR (pc := 71) dX7_readsRow_71 fX7_7 zk_116 zr_116_0 ?_
          refine rr_iconst (n := 0) dX7_readsRow_74 ?_
          refine rr_dup2 (pc := 75) dX7_readsRow_75 ?_
          refine rr_iald (pc := 76) dX7_readsRow_76 zk_117 (by omega) (by omega) ?_
          rw [zup_i (show (0 : Int) ≠ 8 + a 0 by omega), e0]
          refine rr_iconst (n := 1) dX7_readsRow_77 ?_
          refine rr_iadd (pc := 78) dX7_readsRow_78 ?_
          refine rr_iast (pc := 79) dX7_readsRow_79 zk_117 (by omega) (by omega) ?_
          refine rr_aload_n (pc := 80) dX7_readsRow_80 rfl ?_
          refine rr_getR (pc := 81) dX7_readsRow_81 fX7_7 zk_116 zr_116_0 ?_
          refine rr_iconst (n := 1) dX7_readsRow_84 ?_
          refine rr_dup2 (pc := 85) dX7_readsRow_85 ?_
          refine rr_iald (pc := 86) dX7_readsRow_86 zk_117 (by omega) (by omega) ?_
          rw [zup_i (show (1 : Int) ≠ 0 by decide), zup_i (show (1 : Int) ≠ 8 + a 0 by omega), e1]
          refine rr_iload_n (pc := 87) dX7_readsRow_87 rfl ?_
          refine rr_iadd (pc := 88) dX7_readsRow_88 ?_
          refine rr_iast (pc := 89) dX7_readsRow_89 zk_117 (by omega) (by omega) ?_
          have eF : zup (zup (zup W1 117 (8 + a 0) 1) 117 0 (a 0 + 1)) 117 1 (a 1 + 1) 117 = iup (iup (iup (W1 117) (8 + a 0) 1) 0 (a 0 + 1)) 1 (a 1 + 1) := by rw [zup_at, zup_at, zup_at]
          have o9 : zOfm W1 (zup (zup (zup W1 117 (8 + a 0) 1) 117 0 (a 0 + 1)) 117 1 (a 1 + 1)) := zOfm.rf.up.up.up
          have rF : zRw (zup (zup (zup W1 117 (8 + a 0) 1) 117 0 (a 0 + 1)) 117 1 (a 1 + 1)) 0 (aRow a 1) := by
            have s1 : zRw (zup W1 117 (8 + a 0) 1) 0 (iup a (8 + a 0) 1) := q4.up zup_at (by omega)
            have s2 : zRw (zup (zup W1 117 (8 + a 0) 1) 117 0 (a 0 + 1)) 0 _ := s1.up zup_at (by decide)
            exact s2.up zup_at (by decide)
          exact rr_retv (pc := 90) dX7_readsRow_90 rfl rfl (hq _ (o1.tr o9.R) (by rw [hS, hwd]; exact ⟨zGd.m ⟨q1, q2, q3⟩ o9, rF, q5.row hlt (by decide) (by decide)⟩))
        · exact absurd rfl h51
      · refine rr_iconst (n := 2) dX7_readsRow_33 ?_
        refine rr_goto (pc := 34) (tgt := 38) dX7_readsRow_34 (by decide) ?_
        refine rr_istore_n (pc := 38) dX7_readsRow_38 (by decide) ?_
        have hn2 := z_i10n h30
        have hwd : sWide B N p = 2 := by
          unfold sWide
          by_cases z : sW B N p wOne = true
          · exfalso
            have e1 := (sW_iff.mp z).2 0 (by decide)
            have e2 := (sW_iff.mp hn2).2 0 (by decide)
            rw [e1] at e2
            exact absurd e2 (by decide)
          · rw [if_neg z, if_pos hn2]
        refine rr_aload_n (pc := 39) dX7_readsRow_39 rfl ?_
        refine rr_aload_n (pc := 40) dX7_readsRow_40 rfl ?_
        refine rr_inv0 (M' := MX7_isRow) (k := 116) (As := []) (pc := 41) dX7_readsRow_41 lX7_146 kX7_isRow vX7_isRow zk_116 (by decide) rfl (by decide) (by decide) (Nat.le_of_ble_eq_true rfl) rfl (eX7_isRow h ?_)
        refine rr_inv0 (M' := MX7_must) (k := 116) (As := [_]) (pc := 44) dX7_readsRow_44 lX7_150 kX7_must vX7_must zk_116 (by decide) rfl (by decide) (by decide) (Nat.le_of_ble_eq_true rfl) rfl (eX7_must h (fun W1 o1 r1 => ?_))
        have r1 : zMR W1 B N 0 (.inr (adv B N p, a)) := by
          have h9 : sMst B N (sIr B N (.inr (p, a))) (.inr (p, a)) = .inr (sSk B N (sEd B N p), a) := if_pos hir
          rw [h9, sEd_w hkd0] at r1; exact r1
        obtain ⟨⟨q1, q2, q3⟩, q4, q5⟩ : zGd W1 B N (adv B N p) ∧ zRw W1 0 a ∧ zPs a := r1
        have e0 := q4.1 0 (by omega) (by omega) (by omega)
        have e1 := q4.1 1 (by omega) (by omega) (by omega)
        refine rr_aload_n (pc := 47) dX7_readsRow_47 rfl ?_
        refine rr_getI (pc := 48) (ji := 14) dX7_readsRow_48 fX7_113 zk_116 zr_116_14 rfl ?_
        rw [q3]
        refine rr_if_eq (pc := 51) (tgt := 55) dX7_readsRow_51 (by decide) (by unfold zR; omega) (fun h51 => ?_) (fun h51 => ?_)
        · refine rr_aload_n (pc := 55) dX7_readsRow_55 rfl ?_
          refine rr_getR (pc := 56) dX7_readsRow_56 fX7_7 zk_116 zr_116_0 ?_
          refine rr_bipush (n := (8)) dX7_readsRow_59 ?_
          refine rr_aload_n (pc := 61) dX7_readsRow_61 rfl ?_
          refine rr_getR (pc := 62) dX7_readsRow_62 fX7_7 zk_116 zr_116_0 ?_
          refine rr_iconst (n := 0) dX7_readsRow_65 ?_
          refine rr_iald (pc := 66) dX7_readsRow_66 zk_117 (by omega) (by omega) ?_
          rw [e0]
          refine rr_iadd (pc := 67) dX7_readsRow_67 ?_
          refine rr_iload_n (pc := 68) dX7_readsRow_68 rfl ?_
          refine rr_iast (pc := 69) dX7_readsRow_69 zk_117 (by omega) (by omega) ?_
          refine rr_aload_n (pc := 70) dX7_readsRow_70 rfl ?_
          refine rr_getR (pc := 71) dX7_readsRow_71 fX7_7 zk_116 zr_116_0 ?_
          refine rr_iconst (n := 0) dX7_readsRow_74 ?_
          refine rr_dup2 (pc := 75) dX7_readsRow_75 ?_
          refine rr_iald (pc := 76) dX7_readsRow_76 zk_117 (by omega) (by omega) ?_
          rw [zup_i (show (0 : Int) ≠ 8 + a 0 by omega), e0]
          refine rr_iconst (n := 1) dX7_readsRow_77 ?_
          refine rr_iadd (pc := 78) dX7_readsRow_78 ?_
          refine rr_iast (pc := 79) dX7_readsRow_79 zk_117 (by omega) (by omega) ?_
          refine rr_aload_n (pc := 80) dX7_readsRow_80 rfl ?_
          refine rr_getR (pc := 81) dX7_readsRow_81 fX7_7 zk_116 zr_116_0 ?_
          refine rr_iconst (n := 1) dX7_readsRow_84 ?_
          refine rr_dup2 (pc := 85) dX7_readsRow_85 ?_
          refine rr_iald (pc := 86) dX7_readsRow_86 zk_117 (by omega) (by omega) ?_
          rw [zup_i (show (1 : Int) ≠ 0 by decide), zup_i (show (1 : Int) ≠ 8 + a 0 by omega), e1]
          refine rr_iload_n (pc := 87) dX7_readsRow_87 rfl ?_
          refine rr_iadd (pc := 88) dX7_readsRow_88 ?_
          refine rr_iast (pc := 89) dX7_readsRow_89 zk_117 (by omega) (by omega) ?_
          have eF : zup (zup (zup W1 117 (8 + a 0) 2) 117 0 (a 0 + 1)) 117 1 (a 1 + 2) 117 = iup (iup (iup (W1 117) (8 + a 0) 2) 0 (a 0 + 1)) 1 (a 1 + 2) := by rw [zup_at, zup_at, zup_at]
          have o9 : zOfm W1 (zup (zup (zup W1 117 (8 + a 0) 2) 117 0 (a 0 + 1)) 117 1 (a 1 + 2)) := zOfm.rf.up.up.up
          have rF : zRw (zup (zup (zup W1 117 (8 + a 0) 2) 117 0 (a 0 + 1)) 117 1 (a 1 + 2)) 0 (aRow a 2) := by
            have s1 : zRw (zup W1 117 (8 + a 0) 2) 0 (iup a (8 + a 0) 2) := q4.up zup_at (by omega)
            have s2 : zRw (zup (zup W1 117 (8 + a 0) 2) 117 0 (a 0 + 1)) 0 _ := s1.up zup_at (by decide)
            exact s2.up zup_at (by decide)
          exact rr_retv (pc := 90) dX7_readsRow_90 rfl rfl (hq _ (o1.tr o9.R) (by rw [hS, hwd]; exact ⟨zGd.m ⟨q1, q2, q3⟩ o9, rF, q5.row hlt (by decide) (by decide)⟩))
        · exact absurd rfl h51
    · refine rr_aload_n (pc := 18) dX7_readsRow_18 rfl ?_
      refine rr_bipush (n := (-5)) dX7_readsRow_19 ?_
      refine rr_inv0 (M' := MX7_fails) (k := 116) (As := [_]) (pc := 21) dX7_readsRow_21 lX7_129 kX7_fails vX7_fails zk_116 (by decide) rfl (by decide) (by decide) (Nat.le_of_ble_eq_true rfl) rfl (eX7_failsG h (by decide) (by decide) (fun W1 o1 r1 => ?_))
      have hir := hrow.mp (z_i10n h4)
      have hS : sRow1 B N p a = .inl (-5, p) := by unfold sRow1; rw [if_neg hir, if_pos (by omega)]
      have hb1 : zBd W1 0 (-5) p := r1
      have r9 : W1 116 14 = -5 := r1.1
      refine rr_aload_n (pc := 24) dX7_readsRow_24 rfl ?_
      refine rr_ldcs (pc := 25) 13 dX7_readsRow_25 rfl ?_
      refine rr_inv0 (M' := MX7_isWord) (k := 116) (As := [_]) (pc := 27) dX7_readsRow_27 lX7_138 kX7_isWord vX7_isWord zk_116 (by decide) rfl (by decide) (by decide) (Nat.le_of_ble_eq_true rfl) rfl (eWB hb1 (by decide) ?_)
      refine rr_if_eq (pc := 30) (tgt := 37) dX7_readsRow_30 (by decide) (by unfold zR; omega) (fun h30 => ?_) (fun h30 => ?_)
      · refine rr_iconst (n := 1) dX7_readsRow_37 ?_
        refine rr_istore_n (pc := 38) dX7_readsRow_38 (by decide) ?_
        refine rr_aload_n (pc := 39) dX7_readsRow_39 rfl ?_
        refine rr_aload_n (pc := 40) dX7_readsRow_40 rfl ?_
        refine rr_inv0 (M' := MX7_isRow) (k := 116) (As := []) (pc := 41) dX7_readsRow_41 lX7_146 kX7_isRow vX7_isRow zk_116 (by decide) rfl (by decide) (by decide) (Nat.le_of_ble_eq_true rfl) rfl (eX7_isRow (r := .inl (-5, p)) (B := B) (N := N) r1 ?_)
        refine rr_inv0 (M' := MX7_must) (k := 116) (As := [_]) (pc := 44) dX7_readsRow_44 lX7_150 kX7_must vX7_must zk_116 (by decide) rfl (by decide) (by decide) (Nat.le_of_ble_eq_true rfl) rfl (eX7_mustB hb1 (by show zR 0; unfold zR; omega) ?_)
        refine rr_aload_n (pc := 47) dX7_readsRow_47 rfl ?_
        refine rr_getI (pc := 48) (ji := 14) dX7_readsRow_48 fX7_113 zk_116 zr_116_14 rfl ?_
        rw [r9]
        refine rr_if_eq (pc := 51) (tgt := 55) dX7_readsRow_51 (by decide) (by unfold zR; omega) (fun h51 => ?_) (fun h51 => ?_)
        · exact absurd h51 (by decide)
        · exact rr_retv (pc := 54) dX7_readsRow_54 rfl rfl (hq W1 o1.R (by rw [hS]; exact r1))
      · exact (h30 rfl).elim
theorem eX7_readsRow {W : zWd} {B : Nat → Int} {N : Nat} {r : zRs} {Q : Option Value → zWd → Prop} {X : zX} (h : zMR W B N 0 r) (hq : ∀ W' : zWd, zOfR W W' → zMR W' B N 0 (zBind r (sRow1 B N)) → Q none W') : Ev MX7_readsRow 6 0 W [.ref 116] Q X := by
  cases r with
  | inl e => exact eX7_readsRowB h (hq W zOfR.rf h)
  | inr g => exact eX7_readsRowG (p := g.1) (a := g.2) h hq
