/-! the law's own frame: with the script b, of L ints xs, at the id 1300 -/
abbrev MLaw : zM := (RL, cL_law, 9, yL_law, ret)
def RS (b L : Nat) (xs : Nat → Int32) (t : Nat) (W₀ : zWd) (pc : Nat) (ls st : List Value) : Prop :=
  ∀ (p : Program) (l : Launch) (e : Env) (R : Room) (s : State) (m : MethodId) (args : Array Value) (below : List Frame) (meth : Method) (c : Code) (cells slots : Nat) (Q : State → Prop) (D : va_G) (Y : zY) (ad : Nat → Nat) (A : Nat → Prop),
    zC MLaw 11 t p l R s m args meth c cells slots D Y ad A → zNc s → va_X b L xs s s.heap → b < s.heap.size → ¬ A b → ad 1300 = b →
    (∀ (pc' : Nat) (H' : Heap) (locs' : List Loc) (lsA' : Array Slot) (cells' slots' : Nat), decode cL_law pc' = .ok (.ireturn, 1) → va_S A s.heap H' locs' → cells' ≤ cells + t → slots' ≤ slots + 6 * t → W p l e R s m args below meth c H' locs' cells' slots' Q (F0 m pc' lsA' [zI 1])) →
    ∀ (H : Heap) (locs : List Loc) (lsA : Array Slot), va_P D vwCl (zws Y ad W₀) H → va_S A s.heap H locs → lv_has lsA 9 (zl ad 0 ls) → W p l e R s m args below meth c H locs cells slots Q (F0 m pc lsA (zts ad st))
section ZLV
variable {p : Program} {l : Launch} {e : Env} {R : Room} {s : State} {m : MethodId} {args : Array Value} {below : List Frame} {meth : Method} {c : Code} {H : Heap} {locs : List Loc} {cells slots : Nat} {Q : State → Prop}
variable {cc : ByteArray} {pc : Nat} {ls : Array Slot} {rest : List Value}
theorem zv_lcmp (hexec : p.tables.exec = Jvm.exec) (hb : c.code = cc) {x : Int64} (hdg : decode cc pc = .ok (.lcmp, 1)) (k : W p l e R s m args below meth c H locs cells slots Q (F0 m (pc + 1) ls (.int 0 :: rest))) : W p l e R s m args below meth c H locs cells slots Q (F0 m pc ls (.long x :: .long x :: rest)) := by
  intro T hT X
  obtain ⟨t, a, b⟩ := k T hT X
  refine ⟨t, ?_, b⟩
  jvm_step X.here [X.here.top, hexec, hb, hdg]
  exact a
end ZLV
section ZRS
variable {b L : Nat} {xs : Nat → Int32} {t : Nat} {W₀ : zWd} {pc : Nat} {ls st : List Value}
theorem rs_rr (h : RR MLaw 11 t W₀ pc ls st (fun t' pc' ls' st' W' => RS b L xs t' W' pc' ls' st') (fun _ _ => False)) : RS b L xs t W₀ pc ls st := by
  intro p l e R s m args below meth c cells slots Q D Y ad A hC hN hX hb hbA had hK H locs lsA hP hS hl
  obtain ⟨c1, c2, c3, c4, c5, c6, c7, c8, c9, c10, c11, c12⟩ := id hC
  refine h p l e R s m args below meth c cells slots Q D Y ad A hC (fun t' pc' ls' st' W' H' locs' lsA' cells' slots' k hP' hS' hl' hc' hs' => ?_) (fun E pc' st' W' H' locs' lsA' cells' slots' ce q k => k.elim) H locs lsA hP hS hl
  exact k p l e R s m args below meth c cells' slots' Q D Y ad A ⟨c1, c2, c3, c4, c5, c6, c7, c8, c9, c10, by omega, by omega⟩ hN hX hb hbA had (fun pc'' H'' locs'' lsA'' cells'' slots'' k1 k2 k3 k4 => hK pc'' H'' locs'' lsA'' cells'' slots'' k1 k2 (by omega) (by omega)) H' locs' lsA' hP' hS' hl'
theorem rs_iconst {n : Int} (hd : decode cL_law pc = .ok (.iconst n, 1)) (k : RS b L xs t W₀ (pc + 1) ls (zI n :: st)) : RS b L xs t W₀ pc ls st := rs_rr (rr_iconst hd (rr_base k))
theorem rs_bipush {n : Int} (hd : decode cL_law pc = .ok (.bipush n, 2)) (k : RS b L xs t W₀ (pc + 2) ls (zI n :: st)) (hv : (Int8.ofInt n).toInt32 = Int32.ofInt n := by decide) : RS b L xs t W₀ pc ls st := rs_rr (rr_bipush hd (rr_base k) hv)
theorem rs_iload {i : Nat} {z : Int} (hd : decode cL_law pc = .ok (.iload i, 2)) (hg : zg ls i = zI z) (k : RS b L xs t W₀ (pc + 2) ls (zI z :: st)) : RS b L xs t W₀ pc ls st := rs_rr (rr_iload hd hg (rr_base k))
theorem rs_aload_n {k : Fin 4} {r : Nat} (hd : decode cL_law pc = .ok (.aload_n k, 1)) (hg : zg ls k = .ref r) (kk : RS b L xs t W₀ (pc + 1) ls (.ref r :: st)) : RS b L xs t W₀ pc ls st := rs_rr (rr_aload_n hd hg (rr_base kk))
theorem rs_istore {i : Nat} {z : Int} (hd : decode cL_law pc = .ok (.istore i, 2)) (hn : i < 9) (k : RS b L xs t W₀ (pc + 2) (zs ls i (zI z)) st) : RS b L xs t W₀ pc ls (zI z :: st) := rs_rr (rr_istore hd hn (rr_base k))
theorem rs_isub {a c : Int} (hd : decode cL_law pc = .ok (.isub, 1)) (k : RS b L xs t W₀ (pc + 1) ls (zI (a - c) :: st)) : RS b L xs t W₀ pc ls (zI c :: zI a :: st) := rs_rr (rr_isub hd (rr_base k))
theorem rs_iinc {i : Nat} {n z : Int} (hd : decode cL_law pc = .ok (.iinc i n, 3)) (hg : zg ls i = zI z) (hn : i < 9) (k : RS b L xs t W₀ (pc + 3) (zs ls i (zI (z + n))) st) : RS b L xs t W₀ pc ls st := rs_rr (rr_iinc hd hg hn (rr_base k))
theorem rs_goto {off : Int} {tgt : Nat} (hd : decode cL_law pc = .ok (.goto off, 3)) (ht : (pc : Int) + off = (tgt : Int)) (k : RS b L xs t W₀ tgt ls st) : RS b L xs t W₀ pc ls st := rs_rr (rr_goto hd ht (rr_base k))
theorem rs_icmp_gt {a c : Int} {off : Int} {tgt : Nat} (hd : decode cL_law pc = .ok (.if_icmp .gt off, 3)) (ht : (pc : Int) + off = (tgt : Int)) (ha : zR a) (hb : zR c) (kt : c < a → RS b L xs t W₀ tgt ls st) (kf : a ≤ c → RS b L xs t W₀ (pc + 3) ls st) : RS b L xs t W₀ pc ls (zI c :: zI a :: st) := rs_rr (rr_icmp_gt hd ht ha hb (fun h => rr_base (kt h)) (fun h => rr_base (kf h)))
/-- the two answers are the same -/
theorem rs_same {a : Int} {off : Int} {tgt : Nat} (hd : decode cL_law pc = .ok (.if_icmp .eq off, 3)) (ht : (pc : Int) + off = (tgt : Int)) (ha : zR a) (k : RS b L xs t W₀ tgt ls st) : RS b L xs t W₀ pc ls (zI a :: zI a :: st) := rs_rr (rr_icmp_eq hd ht ha ha (fun _ => rr_base k) (fun h => (h rfl).elim))
theorem rs_if_ne {a : Int} {off : Int} {tgt : Nat} (hd : decode cL_law pc = .ok (.ifCond .ne off, 3)) (ht : (pc : Int) + off = (tgt : Int)) (ha : zR a) (kt : a ≠ 0 → RS b L xs t W₀ tgt ls st) (kf : a = 0 → RS b L xs t W₀ (pc + 3) ls st) : RS b L xs t W₀ pc ls (zI a :: st) := rs_rr (rr_if_ne hd ht ha (fun h => rr_base (kt h)) (fun h => rr_base (kf h)))
theorem rs_if_eq {a : Int} {off : Int} {tgt : Nat} (hd : decode cL_law pc = .ok (.ifCond .eq off, 3)) (ht : (pc : Int) + off = (tgt : Int)) (ha : zR a) (kt : a = 0 → RS b L xs t W₀ tgt ls st) (kf : a ≠ 0 → RS b L xs t W₀ (pc + 3) ls st) : RS b L xs t W₀ pc ls (zI a :: st) := rs_rr (rr_if_eq hd ht ha (fun h => rr_base (kt h)) (fun h => rr_base (kf h)))
theorem rs_iandm {a c : Int} (j : Nat) (hd : decode cL_law pc = .ok (.iand, 1)) (hj : j < 32) (hb : c = 2 ^ j - 1) (k : RS b L xs t W₀ (pc + 1) ls (zI (a % 2 ^ j) :: st)) : RS b L xs t W₀ pc ls (zI c :: zI a :: st) := rs_rr (rr_iandm j hd hj hb (rr_base k))
theorem rs_tabI {dflt lo hi : Int} {offs : Array Int} {len : Nat} {a off : Int} {tgt : Nat} (hd : decode cL_law pc = .ok (.tableswitch dflt lo hi offs, len)) (ha : zR a) (h1 : lo ≤ a) (h2 : a ≤ hi) (ho : offs[(a - lo).toNat]? = some off) (ht : (pc : Int) + off = (tgt : Int)) (k : RS b L xs t W₀ tgt ls st) : RS b L xs t W₀ pc ls (zI a :: st) := rs_rr (rr_tabI hd ha h1 h2 ho ht (rr_base k))
theorem rs_inv0 {M' : zM} {d' n index ci k : Nat} {As : List Value} {T : u_T} {N : Nat} (hd : decode cL_law pc = .ok (.invokevirtual index, 3)) (hl : Cond.methodLink RL index M'.2.2.2.1 ∈ zWs) (hcm : zCm M' n) (hvm : zVm M') (hk : zk k = (ci, 0)) (hci : ci < 8) (hcl : vwCl[ci]? = some (M'.1, T, N)) (hdd : d' + 1 ≤ 11) (hlo : M'.2.2.1 ≤ 21) (hst : (st.map fun v => v.category).sum ≤ 8) (hn : As.length = n)
    (hE : Ev M' d' 0 W₀ (.ref k :: As) (fun r W' => RS b L xs t W' (pc + 3) ls (r.toList ++ st)) (fun _ _ => False)) : RS b L xs t W₀ pc ls (As.reverse ++ .ref k :: st) :=
  rs_rr (rr_inv0 (M := MLaw) hd hl hcm hvm hk hci hcl hdd hlo hst hn (ev_mono hE (fun r W' h => rr_base h) (fun _ _ h => h)))
/-- a call of a helper -/
theorem rs_sta {M' : zM} {hh : List (Nat × Nat × Nat × Nat)} {d' t' n index : Nat} {As : List Value} (hd : decode cL_law pc = .ok (.invokestatic index, 3)) (hg : GoodIn zWs (va_wsS RL index M'.2.2.2.1 (zwH M' hh))) (hcm : M'.2.2.2.1.cls ≠ "java/lang/invoke/MethodHandle" ∧ M'.2.2.2.1.cls ≠ "java/lang/invoke/VarHandle" ∧ (parseMethodDescriptor M'.2.2.2.1.desc).map (fun d => d.parameters.length) = some n) (hdd : d' + 1 ≤ 11) (htt : t' ≤ t) (hlo : M'.2.2.1 ≤ 21) (hst : (st.map fun v => v.category).sum ≤ 8) (hn : As.length = n)
    (hE : EvH M' hh d' t' W₀ As (fun r W' => RS b L xs (t - t') W' (pc + 3) ls (r.toList ++ st))) : RS b L xs t W₀ pc ls (As.reverse ++ st) := by
  intro p l e R s m args below meth c cells slots Q D Y ad A hC hN hX hb hbA had hK H locs lsA hP hS hlv
  obtain ⟨⟨h1, h2, h3, h4, h5⟩, c2, c3, c4, c5, c6, c7, c8, c9, c10, c11, c12⟩ := id hC
  have hr : va_Run p l e R s m args below meth c H locs cells slots t' (6 * t') (F0 m pc lsA (zts ad (As.reverse ++ st))) (zts ad st) (zEQ D Y ad A (fun r W' => RS b L xs (t - t') W' (pc + 3) ls (r.toList ++ st)) (zts ad As).toArray) A := by
    refine vx_runSW (n := n) (bytes := M'.2.1) (maxL := M'.2.2.1) (ret := M'.2.2.2.2) (hh := hh) (As := zts ad As) (Ts := zWs) ⟨h1, h2, h3, h4, fun w hw => h5 w (List.mem_cons_of_mem _ hw)⟩ (hE l D Y ad A c2 c7) (vx_cwSW (ws' := zWs) n (fun w hw => h5 w (List.mem_cons_of_mem _ hw)) hg rfl rfl rfl hcm ⟨by show d' + 1 ≤ R.frames; omega, by show 8 + (M'.2.2.1 + 11) + 40 * d' ≤ R.locals; omega⟩) ⟨zBlindH, fun U hU hW => ?_⟩ rfl (by rw [zts_len]; exact hn) hlv.1 ?_ (lv_room (by rw [zts_cat]; exact hst)) hd ⟨by omega, by omega⟩
    · have h9 := zE_warm (args := As) hU hW hS c6 hP c8
      exact ⟨h9.1, h9.2.1, h9.2.2.1, h9.2.2.2, hN.moved hW.alike⟩
    · show zts ad (As.reverse ++ st) = _
      rw [zts_app, zts_rev]
  intro T hT X0
  obtain ⟨v, st₀, t9, T', LL, h0, X', hL, e1, e2, ⟨⟨r, W', hv9, hq, hb9⟩, hF⟩, st9⟩ := hr T hT X0
  cases hv9
  obtain ⟨k1, k2, k3⟩ := vx_keep h0 e1 hS (fun q _ h => h) (fun q h => h) hL hF
  have h9 := hq p l e R s m args below meth c (cells + t') (slots + 6 * t') Q D Y ad A ⟨⟨h1, h2, h3, h4, h5⟩, c2, c3, c4, c5, c6, c7, c8, c9, c10, by omega, by omega⟩ hN hX hb hbA had (fun pc' H' locs' lsA' cells' slots' k1 k2 k3 k4 => hK pc' H' locs' lsA' cells' slots' k1 k2 (by omega) (by omega)) T'.heap (locs ++ LL) lsA (by rw [e1]; exact hb9) k3 hlv
  have e9 : zts ad (r.toList ++ st) = (r.map (zt ad)).toList ++ zts ad st := by cases r <;> rfl
  rw [e9] at h9
  obtain ⟨t2, a1, b1⟩ := h9 T' rfl X'
  exact ⟨t2, st9 t2 a1, b1⟩
def zXs (xs : Nat → Int32) (j : Int) : Int := (xs j.toNat).toInt
theorem zXs_R {j : Int} : zR (zXs xs j) := zR_of _
/-- one word of the script -/
theorem rs_w0 {i : Int} (hl : L ≤ 3072) (h0 : 0 ≤ i) (h1 : i < L) (hg0 : zg ls 0 = .ref 1300) (hg4 : zg ls 4 = zI i) (d0 : decode cL_law pc = .ok (.aload_n 0, 1)) (d1 : decode cL_law (pc + 1) = .ok (.iload 4, 2)) (d3 : decode cL_law (pc + 3) = .ok (.iaload, 1)) (k : RS b L xs t W₀ (pc + 4) ls (zI (zXs xs i) :: st)) : RS b L xs t W₀ pc ls st := by
  refine rs_aload_n (k := 0) d0 hg0 (rs_iload d1 hg4 ?_)
  intro p l e R s m args below meth c cells slots Q D Y ad A hC hN hX hb hbA had hK H locs lsA hP hS hlv
  obtain ⟨⟨g1, g2, g3, g4, g5⟩, -⟩ := id hC
  have h9 := k p l e R s m args below meth c cells slots Q D Y ad A hC hN hX hb hbA had hK H locs lsA hP hS hlv
  unfold zXs zI at h9
  rw [z_back] at h9
  show W p l e R s m args below meth c H locs cells slots Q (F0 m (pc + 1 + 2) lsA (.int (Int32.ofInt i) :: .ref (ad 1300) :: zts ad st))
  rw [had]
  refine va_sld g1 g2 hX hb hbA hS (z_in h0 h1 (by omega)) d3 ?_
  rw [z_clamp h0 (by omega)]
  exact h9
theorem rs_wj {i : Int} (j : Int) (hl : L ≤ 3072) (h0 : 0 ≤ i) (hj : 0 ≤ j) (h1 : i + j < L) (hg0 : zg ls 0 = .ref 1300) (hg4 : zg ls 4 = zI i) (d0 : decode cL_law pc = .ok (.aload_n 0, 1)) (d1 : decode cL_law (pc + 1) = .ok (.iload 4, 2)) (d3 : decode cL_law (pc + 3) = .ok (.iconst j, 1)) (d4 : decode cL_law (pc + 4) = .ok (.iadd, 1)) (d5 : decode cL_law (pc + 5) = .ok (.iaload, 1)) (k : RS b L xs t W₀ (pc + 6) ls (zI (zXs xs (i + j)) :: st)) : RS b L xs t W₀ pc ls st := by
  refine rs_aload_n (k := 0) d0 hg0 (rs_iload d1 hg4 (rs_iconst d3 (rs_rr (rr_iadd d4 (rr_base ?_)))))
  intro p l e R s m args below meth c cells slots Q D Y ad A hC hN hX hb hbA had hK H locs lsA hP hS hlv
  obtain ⟨⟨g1, g2, g3, g4, g5⟩, -⟩ := id hC
  have h9 := k p l e R s m args below meth c cells slots Q D Y ad A hC hN hX hb hbA had hK H locs lsA hP hS hlv
  unfold zXs zI at h9
  rw [z_back] at h9
  show W p l e R s m args below meth c H locs cells slots Q (F0 m (pc + 1 + 2 + 1 + 1) lsA (.int (Int32.ofInt (i + j)) :: .ref (ad 1300) :: zts ad st))
  rw [had]
  refine va_sld g1 g2 hX hb hbA hS (z_in (by omega) h1 (by omega)) d5 ?_
  rw [z_clamp (by omega) (by omega)]
  exact h9
theorem rs_len (hl : L ≤ 3072) (hd : decode cL_law pc = .ok (.arraylength, 1)) (k : RS b L xs t W₀ (pc + 1) ls (zI (L : Int) :: st)) : RS b L xs t W₀ pc ls (.ref 1300 :: st) := by
  intro p l e R s m args below meth c cells slots Q D Y ad A hC hN hX hb hbA had hK H locs lsA hP hS hlv
  obtain ⟨⟨g1, g2, g3, g4, g5⟩, -⟩ := id hC
  have h9 := k p l e R s m args below meth c cells slots Q D Y ad A hC hN hX hb hbA had hK H locs lsA hP hS hlv
  show W p l e R s m args below meth c H locs cells slots Q (F0 m pc lsA (.ref (ad 1300) :: zts ad st))
  rw [had]
  refine va_slen g1 g2 hX hb hbA hS hd ?_
  have e : Int32.ofNat L = Int32.ofInt (L : Int) := by rw [← Int32.toInt_inj, zR_toInt (by unfold zR; omega)]; exact Int32.toInt_ofNat_of_lt (by omega)
  rw [e]
  exact h9
/-- what was written away is what the other answers -/
theorem rs_out {z : Int} {off : Int} {tgt : Nat} (hW : W₀ 128 0 = z) (hg : zg ls 6 = zI z) (d0 : decode cL_law pc = .ok (.aload_n 3, 1)) (hg3 : zg ls 3 = .ref 128) (d1 : decode cL_law (pc + 1) = .ok (.iconst 0, 1)) (d2 : decode cL_law (pc + 2) = .ok (.laload, 1)) (d3 : decode cL_law (pc + 3) = .ok (.iload 6, 2)) (d5 : decode cL_law (pc + 5) = .ok (.i2l, 1)) (d6 : decode cL_law (pc + 6) = .ok (.lcmp, 1)) (d7 : decode cL_law (pc + 7) = .ok (.ifCond .eq off, 3)) (ht : ((pc + 7 : Nat) : Int) + off = (tgt : Int))
    (k : RS b L xs t W₀ tgt ls []) : RS b L xs t W₀ pc ls [] := by
  refine rs_aload_n (k := 3) d0 hg3 (rs_iconst d1 ?_)
  intro p l e R s m args below meth c cells slots Q D Y ad A hC hN hX hb hbA had hK H locs lsA hP hS hlv
  obtain ⟨⟨g1, g2, g3, g4, g5⟩, -, -, -, -, ⟨h6, h7, -⟩, hAd, -⟩ := id hC
  have he := zws_at Y ad W₀ (show 128 < 129 by decide)
  rw [zc_long Y ad W₀ (show zk 128 = (14, 1) from rfl)] at he
  refine va_lald g1 g2 h6 hP 128 4 he rfl (z_in (by decide) (by decide) (by decide)) d2 ?_
  refine lv_iload g1 g2 d3 (zl_at hlv hg) (lv_i2l g1 g2 d5 rfl ?_)
  rw [show W₀ 128 ((Int32.ofInt 0).toNatClampNeg : Int) = z by rw [z_clamp (by decide) (by decide)]; exact hW]
  refine zv_lcmp g1 g2 d6 ?_
  exact (rs_if_eq (b := b) (L := L) (xs := xs) (t := t) (W₀ := W₀) (pc := pc + 7) (ls := ls) (st := []) (a := 0) d7 ht zR_zero (fun _ => k) (fun h => (h rfl).elim)) p l e R s m args below meth c cells slots Q D Y ad A hC hN hX hb hbA had hK H locs lsA hP hS hlv
theorem rs_end (hd : decode cL_law pc = .ok (.ireturn, 1)) : RS b L xs t W₀ pc ls [zI 1] := by
  intro p l e R s m args below meth c cells slots Q D Y ad A hC hN hX hb hbA had hK H locs lsA hP hS hlv
  exact hK pc H locs lsA cells slots hd hS (by omega) (by omega)
theorem zl_drop {ad : Nat → Nat} : ∀ (l l' : List Value) (i : Nat), (∀ k, zg l' k = zg l k ∨ zg l' k = .null) → l'.length ≤ l.length → ∀ q ∈ zl ad i l', q ∈ zl ad i l := by
  intro l
  induction l with
  | nil =>
    intro l' i _ hn q hq
    cases l' with
    | nil => exact hq
    | cons v t => simp at hn
  | cons w t ih =>
    intro l' i h hn q hq
    cases l' with
    | nil => cases hq
    | cons v t' =>
      have h0 : v = w ∨ v = .null := h 0
      have ht : ∀ q ∈ zl ad (i + 1) t', q ∈ zl ad (i + 1) t := ih t' (i + 1) (fun k => h (k + 1)) (by simpa using hn)
      rcases h0 with rfl | rfl
      · cases v with
        | int x =>
          rcases List.mem_cons.mp hq with rfl | hq
          · exact List.mem_cons_self
          · exact List.mem_cons_of_mem _ (ht q hq)
        | ref x =>
          rcases List.mem_cons.mp hq with rfl | hq
          · exact List.mem_cons_self
          · exact List.mem_cons_of_mem _ (ht q hq)
        | _ => exact ht q hq
      · have h9 := ht q hq
        cases w <;> first | exact List.mem_cons_of_mem _ h9 | exact h9
theorem rs_less {ls' : List Value} (h : ∀ k, zg ls' k = zg ls k ∨ zg ls' k = .null) (hn : ls'.length ≤ ls.length) (k : RS b L xs t W₀ pc ls' st) : RS b L xs t W₀ pc ls st := by
  intro p l e R s m args below meth c cells slots Q D Y ad A hC hN hX hb hbA had hK H locs lsA hP hS hlv
  exact k p l e R s m args below meth c cells slots Q D Y ad A hC hN hX hb hbA had hK H locs lsA hP hS ⟨hlv.1, hlv.2.1, fun q hq => hlv.2.2 q (zl_drop ls ls' 0 h hn q hq)⟩
end ZRS
