/-! THE READER -/
def sB (b : Int) : Int := if b < 128 then b else b - 256
def zTx (W : zWd) (B : Nat → Int) (N : Nat) : Prop := W 112 1 = N ∧ N ≤ 600 ∧ ∀ k : Nat, k < N → 1 ≤ B k ∧ B k ≤ 255 ∧ W 113 k = sB (B k)
theorem zTx.off {W W' : zWd} {B : Nat → Int} {N : Nat} (h : zTx W B N) (e1 : W' 112 1 = W 112 1) (e2 : W' 113 = W 113) : zTx W' B N := ⟨e1.trans h.1, h.2.1, fun k hk => by rw [e2]; exact h.2.2 k hk⟩
def sRun (f : Int → Bool) (B : Nat → Int) (N : Nat) : Nat → Nat → Nat
  | 0, i => i
  | n + 1, i => if i < N ∧ f (B i) = true then sRun f B N n (i + 1) else i
def fSp : Int → Bool := fun b => decide (b = 32)
def fLe : Int → Bool := fun b => decide (97 ≤ b ∧ b ≤ 122)
def fDi : Int → Bool := fun b => decide (48 ≤ b ∧ b ≤ 57)
abbrev sSk (B : Nat → Int) (N i : Nat) : Nat := sRun fSp B N (N - i) i
abbrev sWe (B : Nat → Int) (N i : Nat) : Nat := sRun fLe B N (N - i) i
abbrev sDe (B : Nat → Int) (N i : Nat) : Nat := sRun fDi B N (N - i) i
theorem sRun_y {f : Int → Bool} {B : Nat → Int} {N i : Nat} (h : i < N) (hf : f (B i) = true) : sRun f B N (N - i) i = sRun f B N (N - (i + 1)) (i + 1) := by
  rw [show N - i = (N - (i + 1)) + 1 by omega]
  exact if_pos ⟨h, hf⟩
theorem sRun_n {f : Int → Bool} {B : Nat → Int} {N i : Nat} (h : ¬ (i < N ∧ f (B i) = true)) : sRun f B N (N - i) i = i := by
  cases hn : N - i with
  | zero => rfl
  | succ n => exact if_neg h
theorem sRun_rng {f : Int → Bool} {B : Nat → Int} {N : Nat} : ∀ n i : Nat, i ≤ N → i ≤ sRun f B N n i ∧ sRun f B N n i ≤ N := by
  intro n
  induction n with
  | zero => intro i h; exact ⟨Nat.le_refl _, h⟩
  | succ n ih =>
    intro i h
    unfold sRun
    by_cases q : i < N ∧ f (B i) = true
    · rw [if_pos q]; have := ih (i + 1) q.1; omega
    · rw [if_neg q]; exact ⟨Nat.le_refl _, h⟩
def zTk (W : zWd) (B : Nat → Int) (N p : Nat) : Prop := W 112 2 = p ∧ W 112 3 = sWe B N p ∧ p ≤ N
def zRd (W : zWd) (B : Nat → Int) (N p : Nat) : Prop := zTx W B N ∧ zTk W B N p
def zOffr (W W' : zWd) : Prop := ∀ k : Nat, k ≠ 112 → W' k = W k
theorem zOffr.rf {W : zWd} : zOffr W W := fun _ _ => rfl
theorem zOffr.tr {W W' W'' : zWd} (h : zOffr W W') (h2 : zOffr W' W'') : zOffr W W'' := fun k g => (h2 k g).trans (h k g)
theorem zOffr.up {W W' : zWd} {i v : Int} (h : zOffr W W') : zOffr W (zup W' 112 i v) := fun k g => by rw [zup_other k g]; exact h k g
def zFail (W W' : zWd) (code : Int) (p : Nat) : Prop := W' 112 5 = code ∧ W' 112 6 = p ∧ zOffr W W'
theorem zFail.tr {W W' W'' : zWd} {code : Int} {p : Nat} (o : zOffr W W') (h : zFail W' W'' code p) : zFail W W'' code p := ⟨h.1, h.2.1, o.tr h.2.2⟩
theorem sB_eq {b c : Int} (h0 : 1 ≤ b) (h1 : b ≤ 255) (c0 : 0 ≤ c) (c1 : c < 128) : sB b = c ↔ b = c := by unfold sB; split <;> omega
theorem sB_rng {b : Int} (h0 : 1 ≤ b) (h1 : b ≤ 255) : -128 ≤ sB b ∧ sB b < 128 := by unfold sB; split <;> omega
/-! bytes of a number -/
def bY (v : Int) (k : Nat) : Int := v / 2 ^ (24 - 8 * k) % 2 ^ 8
def aBy (v : Int) : Nat → List Int
  | 0 => []
  | k + 1 => aBy v k ++ (if bY v k = 0 then [] else [bY v k])
theorem aBy_z {v : Int} {k : Nat} (h : bY v k = 0) : aBy v (k + 1) = aBy v k := by show aBy v k ++ _ = _; rw [if_pos h, List.append_nil]
theorem aBy_s {v : Int} {k : Nat} (h : bY v k ≠ 0) : aBy v (k + 1) = aBy v k ++ [bY v k] := by show aBy v k ++ _ = _; rw [if_neg h]
theorem bY_rng {v : Int} {k : Nat} : 0 ≤ bY v k ∧ bY v k ≤ 255 := by unfold bY; omega
theorem aBy_len {v : Int} : ∀ k : Nat, (aBy v k).length ≤ k := by
  intro k
  induction k with
  | zero => exact Nat.le_refl _
  | succ k ih => unfold aBy; rw [List.length_append]; split <;> simp <;> omega
theorem aBy_in {v : Int} : ∀ k : Nat, ∀ b ∈ aBy v k, 1 ≤ b ∧ b ≤ 255 := by
  intro k
  induction k with
  | zero => intro b hb; cases hb
  | succ k ih =>
    intro b hb
    unfold aBy at hb
    rcases List.mem_append.mp hb with h | h
    · exact ih b h
    · split at h
      · cases h
      · rcases List.mem_singleton.mp h with rfl
        have := @bY_rng v k
        omega
theorem aBy_mono {v : Int} {k : Nat} (h : k ≤ 4) : (aBy v k).length ≤ (aBy v 4).length := by
  have h9 : ∀ m : Nat, (aBy v k).length ≤ (aBy v (k + m)).length := by
    intro m
    induction m with
    | zero => exact Nat.le_refl _
    | succ m ih =>
      refine Nat.le_trans ih ?_
      show _ ≤ (aBy v (k + m) ++ _).length
      rw [List.length_append]; omega
  have := h9 (4 - k)
  rw [show k + (4 - k) = 4 by omega] at this
  exact this
/-- the text as a list -/
def zTL (W : zWd) (L : List Int) : Prop := W 112 1 = L.length ∧ L.length ≤ 600 ∧ (∀ b ∈ L, 1 ≤ b ∧ b ≤ 255) ∧ ∀ k : Nat, k < L.length → W 113 k = sB (L.getD k 0)
theorem z_getM {L : List Int} {k : Nat} (h : k < L.length) : L.getD k 0 ∈ L := by
  rw [List.getD_eq_getElem?_getD, List.getElem?_eq_getElem h]; exact List.getElem_mem h
theorem zTL.tx {W : zWd} {L : List Int} (h : zTL W L) : zTx W (fun k => L.getD k 0) L.length := ⟨h.1, h.2.1, fun k hk => ⟨(h.2.2.1 _ (z_getM hk)).1, (h.2.2.1 _ (z_getM hk)).2, h.2.2.2 k hk⟩⟩
theorem zTL.app {W : zWd} {L : List Int} {b : Int} (h : zTL W L) (hl : L.length < 600) (h1 : 1 ≤ b) (h2 : b ≤ 255) : zTL (zup (zup W 113 L.length (sB b)) 112 1 (L.length + 1)) (L ++ [b]) := by
  refine ⟨by rw [zup_s, List.length_append]; rfl, by rw [List.length_append]; simp; omega, fun x hx => ?_, fun k hk => ?_⟩
  · rcases List.mem_append.mp hx with g | g
    · exact h.2.2.1 x g
    · rcases List.mem_singleton.mp g with rfl; exact ⟨h1, h2⟩
  · rw [zup_k (by decide)]
    rw [List.length_append] at hk
    have hk : k < L.length + 1 := hk
    by_cases q : k = L.length
    · subst q; rw [zup_s, z_appL]
    · rw [zup_i (by omega), z_appD (by omega)]; exact h.2.2.2 k (by omega)
theorem z_bm2 {b : Int} (h0 : 0 ≤ b) (h1 : b ≤ 255) : b.bmod 256 = sB b := by
  rw [Int.bmod_def]; unfold sB; split <;> split <;> omega
def zOfft2 (W W' : zWd) : Prop := (∀ k : Nat, k ≠ 112 → k ≠ 113 → W' k = W k) ∧ ∀ j : Int, j ≠ 1 → W' 112 j = W 112 j
theorem zOfft2.rf {W : zWd} : zOfft2 W W := ⟨fun _ _ _ => rfl, fun _ _ => rfl⟩
theorem zOfft2.tr {W W' W'' : zWd} (h : zOfft2 W W') (h2 : zOfft2 W' W'') : zOfft2 W W'' := ⟨fun k g1 g2 => (h2.1 k g1 g2).trans (h.1 k g1 g2), fun j g => (h2.2 j g).trans (h.2 j g)⟩
theorem dX3_bytesIn_0 : decode cX3_bytesIn 0 = .ok (.iconst 0, 1) := by decide +kernel
theorem dX3_bytesIn_1 : decode cX3_bytesIn 1 = .ok (.istore_n 1, 1) := by decide +kernel
theorem dX3_bytesIn_2 : decode cX3_bytesIn 2 = .ok (.bipush 24, 2) := by decide +kernel
theorem dX3_bytesIn_4 : decode cX3_bytesIn 4 = .ok (.istore_n 2, 1) := by decide +kernel
theorem dX3_bytesIn_5 : decode cX3_bytesIn 5 = .ok (.iload_n 2, 1) := by decide +kernel
theorem dX3_bytesIn_6 : decode cX3_bytesIn 6 = .ok (.ifCond .lt 22, 3) := by decide +kernel
theorem dX3_bytesIn_9 : decode cX3_bytesIn 9 = .ok (.iload_n 0, 1) := by decide +kernel
theorem dX3_bytesIn_10 : decode cX3_bytesIn 10 = .ok (.iload_n 2, 1) := by decide +kernel
theorem dX3_bytesIn_11 : decode cX3_bytesIn 11 = .ok (.ishr, 1) := by decide +kernel
theorem dX3_bytesIn_12 : decode cX3_bytesIn 12 = .ok (.sipush 255, 3) := by decide +kernel
theorem dX3_bytesIn_15 : decode cX3_bytesIn 15 = .ok (.iand, 1) := by decide +kernel
theorem dX3_bytesIn_16 : decode cX3_bytesIn 16 = .ok (.ifCond .eq 6, 3) := by decide +kernel
theorem dX3_bytesIn_19 : decode cX3_bytesIn 19 = .ok (.iinc 1 1, 3) := by decide +kernel
theorem dX3_bytesIn_22 : decode cX3_bytesIn 22 = .ok (.iinc 2 (-8), 3) := by decide +kernel
theorem dX3_bytesIn_25 : decode cX3_bytesIn 25 = .ok (.goto (-20), 3) := by decide +kernel
theorem dX3_bytesIn_28 : decode cX3_bytesIn 28 = .ok (.iload_n 1, 1) := by decide +kernel
theorem dX3_bytesIn_29 : decode cX3_bytesIn 29 = .ok (.ireturn, 1) := by decide +kernel
theorem eX3_bytesIn {W : zWd} {v : Int} {Q : Option Value → zWd → Prop} {X : zX} (hz : zR v) (hq : Q (some (zI ((aBy v 4).length : Nat))) W) : Ev MX3_bytesIn 0 0 W [zI v] Q X := by
  refine ev_of (ls := [zI v, .null, .null]) (by decide) rfl (fun _ => rfl) (fun _ => Nat.le_of_ble_eq_true rfl) (Or.inl rfl) ?_
  have loop : ∀ (n : Nat) (k : Nat), k ≤ 4 → 4 - k < n → RR MX3_bytesIn 0 0 W 5 [zI v, zI ((aBy v k).length : Nat), zI (24 - 8 * (k : Int))] [] (zEnd MX3_bytesIn Q X) X := by
    intro n
    induction n with
    | zero => intro k _ hm9; omega
    | succ n ih =>
      intro k h2 hm9
      refine rr_iload_n (pc := 5) dX3_bytesIn_5 rfl ?_
      have hby := @bY_rng v k
      refine rr_if_lt (pc := 6) (tgt := 28) dX3_bytesIn_6 (by decide) (by unfold zR; omega) (fun h6 => ?_) (fun h6 => ?_)
      · refine rr_iload_n (pc := 28) dX3_bytesIn_28 rfl ?_
        exact rr_reti (pc := 29) dX3_bytesIn_29 rfl rfl (by rw [show k = 4 by omega]) rfl (hq)
      · refine rr_iload_n (pc := 9) dX3_bytesIn_9 rfl ?_
        refine rr_iload_n (pc := 10) dX3_bytesIn_10 rfl ?_
        refine rr_ishr (pc := 11) dX3_bytesIn_11 hz (by omega) (by omega) ?_
        rw [show (24 - 8 * (k : Int)).toNat = 24 - 8 * k by omega]
        refine rr_sipush (n := (255)) dX3_bytesIn_12 ?_
        refine rr_iandm (pc := 15) 8 dX3_bytesIn_15 (by decide) rfl ?_
        refine rr_eqS (congrArg (fun z => [zI z]) (show _ = bY v k from rfl)) ?_
        refine rr_if_eq (pc := 16) (tgt := 22) dX3_bytesIn_16 (by decide) (by unfold zR; omega) (fun h16 => ?_) (fun h16 => ?_)
        · refine rr_iinc (pc := 22) dX3_bytesIn_22 rfl (by decide) ?_
          refine rr_goto (pc := 25) (tgt := 5) dX3_bytesIn_25 (by decide) ?_
          refine rr_eqL ?_ (ih (k + 1) (by omega) (by omega))
          rw [aBy_z h16, show (24 : Int) - 8 * ((k + 1 : Nat) : Int) = 24 - 8 * (k : Int) + -8 by omega]
          rfl
        · refine rr_iinc (pc := 19) dX3_bytesIn_19 rfl (by decide) ?_
          refine rr_iinc (pc := 22) dX3_bytesIn_22 rfl (by decide) ?_
          refine rr_goto (pc := 25) (tgt := 5) dX3_bytesIn_25 (by decide) ?_
          refine rr_eqL ?_ (ih (k + 1) (by omega) (by omega))
          rw [aBy_s h16, List.length_append, show (24 : Int) - 8 * ((k + 1 : Nat) : Int) = 24 - 8 * (k : Int) + -8 by omega]
          rfl
  refine rr_iconst (n := 0) dX3_bytesIn_0 ?_
  refine rr_istore_n (pc := 1) dX3_bytesIn_1 (by decide) ?_
  refine rr_bipush (n := (24)) dX3_bytesIn_2 ?_
  refine rr_istore_n (pc := 4) dX3_bytesIn_4 (by decide) ?_
  exact loop _ 0 (by omega) (Nat.lt_succ_self _)
theorem dX3_addBytes_0 : decode cX3_addBytes 0 = .ok (.bipush 24, 2) := by decide +kernel
theorem dX3_addBytes_2 : decode cX3_addBytes 2 = .ok (.istore_n 2, 1) := by decide +kernel
theorem dX3_addBytes_3 : decode cX3_addBytes 3 = .ok (.iload_n 2, 1) := by decide +kernel
theorem dX3_addBytes_4 : decode cX3_addBytes 4 = .ok (.ifCond .lt 52, 3) := by decide +kernel
theorem dX3_addBytes_7 : decode cX3_addBytes 7 = .ok (.iload_n 1, 1) := by decide +kernel
theorem dX3_addBytes_8 : decode cX3_addBytes 8 = .ok (.iload_n 2, 1) := by decide +kernel
theorem dX3_addBytes_9 : decode cX3_addBytes 9 = .ok (.ishr, 1) := by decide +kernel
theorem dX3_addBytes_10 : decode cX3_addBytes 10 = .ok (.sipush 255, 3) := by decide +kernel
theorem dX3_addBytes_13 : decode cX3_addBytes 13 = .ok (.iand, 1) := by decide +kernel
theorem dX3_addBytes_14 : decode cX3_addBytes 14 = .ok (.istore_n 3, 1) := by decide +kernel
theorem dX3_addBytes_15 : decode cX3_addBytes 15 = .ok (.iload_n 3, 1) := by decide +kernel
theorem dX3_addBytes_16 : decode cX3_addBytes 16 = .ok (.ifCond .eq 34, 3) := by decide +kernel
theorem dX3_addBytes_19 : decode cX3_addBytes 19 = .ok (.aload_n 0, 1) := by decide +kernel
theorem dX3_addBytes_20 : decode cX3_addBytes 20 = .ok (.getfield 19, 3) := by decide +kernel
theorem dX3_addBytes_23 : decode cX3_addBytes 23 = .ok (.sipush 600, 3) := by decide +kernel
theorem dX3_addBytes_26 : decode cX3_addBytes 26 = .ok (.if_icmp .ge 24, 3) := by decide +kernel
theorem dX3_addBytes_29 : decode cX3_addBytes 29 = .ok (.aload_n 0, 1) := by decide +kernel
theorem dX3_addBytes_30 : decode cX3_addBytes 30 = .ok (.getfield 9, 3) := by decide +kernel
theorem dX3_addBytes_33 : decode cX3_addBytes 33 = .ok (.aload_n 0, 1) := by decide +kernel
theorem dX3_addBytes_34 : decode cX3_addBytes 34 = .ok (.getfield 19, 3) := by decide +kernel
theorem dX3_addBytes_37 : decode cX3_addBytes 37 = .ok (.iload_n 3, 1) := by decide +kernel
theorem dX3_addBytes_38 : decode cX3_addBytes 38 = .ok (.i2b, 1) := by decide +kernel
theorem dX3_addBytes_39 : decode cX3_addBytes 39 = .ok (.bastore, 1) := by decide +kernel
theorem dX3_addBytes_40 : decode cX3_addBytes 40 = .ok (.aload_n 0, 1) := by decide +kernel
theorem dX3_addBytes_41 : decode cX3_addBytes 41 = .ok (.dup, 1) := by decide +kernel
theorem dX3_addBytes_42 : decode cX3_addBytes 42 = .ok (.getfield 19, 3) := by decide +kernel
theorem dX3_addBytes_45 : decode cX3_addBytes 45 = .ok (.iconst 1, 1) := by decide +kernel
theorem dX3_addBytes_46 : decode cX3_addBytes 46 = .ok (.iadd, 1) := by decide +kernel
theorem dX3_addBytes_47 : decode cX3_addBytes 47 = .ok (.putfield 19, 3) := by decide +kernel
theorem dX3_addBytes_50 : decode cX3_addBytes 50 = .ok (.iinc 2 (-8), 3) := by decide +kernel
theorem dX3_addBytes_53 : decode cX3_addBytes 53 = .ok (.goto (-50), 3) := by decide +kernel
theorem dX3_addBytes_56 : decode cX3_addBytes 56 = .ok (.return_, 1) := by decide +kernel
theorem eX3_addBytes {W : zWd} {L : List Int} {v : Int} {Q : Option Value → zWd → Prop} {X : zX} (hz : zR v) (hT : zTL W L) (hl : L.length + (aBy v 4).length ≤ 600) (hq : ∀ W' : zWd, zOfft2 W W' → zTL W' (L ++ aBy v 4) → Q none W') : Ev MX3_addBytes 0 0 W [.ref 112, zI v] Q X := by
  refine ev_of (ls := [.ref 112, zI v, .null, .null]) (by decide) rfl (fun _ => rfl) (fun _ => Nat.le_of_ble_eq_true rfl) (Or.inl rfl) ?_
  have loop : ∀ (n : Nat) (k : Nat) (Wi : zWd) (x3 : Value), k ≤ 4 → zOfft2 W Wi → zTL Wi (L ++ aBy v k) → 4 - k < n → RR MX3_addBytes 0 0 Wi 3 [.ref 112, zI v, zI (24 - 8 * (k : Int)), x3] [] (zEnd MX3_addBytes Q X) X := by
    intro n
    induction n with
    | zero => intro k Wi x3 _ _ _ hm9; omega
    | succ n ih =>
      intro k Wi x3 h2 hO hT hm9
      refine rr_iload_n (pc := 3) dX3_addBytes_3 rfl ?_
      have hby := @bY_rng v k
      have hmo := @aBy_mono v
      have e8 : (24 : Int) - 8 * ((k + 1 : Nat) : Int) = 24 - 8 * (k : Int) + -8 := by omega
      refine rr_if_lt (pc := 4) (tgt := 56) dX3_addBytes_4 (by decide) (by unfold zR; omega) (fun h4 => ?_) (fun h4 => ?_)
      · exact rr_retv (pc := 56) dX3_addBytes_56 rfl rfl (hq Wi hO (by rw [show 4 = k by omega]; exact hT))
      · refine rr_iload_n (pc := 7) dX3_addBytes_7 rfl ?_
        refine rr_iload_n (pc := 8) dX3_addBytes_8 rfl ?_
        refine rr_ishr (pc := 9) dX3_addBytes_9 hz (by omega) (by omega) ?_
        rw [show (24 - 8 * (k : Int)).toNat = 24 - 8 * k by omega]
        refine rr_sipush (n := (255)) dX3_addBytes_10 ?_
        refine rr_iandm (pc := 13) 8 dX3_addBytes_13 (by decide) rfl ?_
        refine rr_eqS (congrArg (fun z => [zI z]) (show _ = bY v k from rfl)) ?_
        refine rr_istore_n (pc := 14) dX3_addBytes_14 (by decide) ?_
        refine rr_iload_n (pc := 15) dX3_addBytes_15 rfl ?_
        refine rr_if_eq (pc := 16) (tgt := 50) dX3_addBytes_16 (by decide) (by unfold zR; omega) (fun h16 => ?_) (fun h16 => ?_)
        · refine rr_iinc (pc := 50) dX3_addBytes_50 rfl (by decide) ?_
          refine rr_goto (pc := 53) (tgt := 3) dX3_addBytes_53 (by decide) ?_
          refine rr_eqL ?_ (ih (k + 1) Wi (zI (bY v k)) (by omega) hO (by rw [aBy_z h16]; exact hT) (by omega))
          rw [e8]
          rfl
        · refine rr_aload_n (pc := 19) dX3_addBytes_19 rfl ?_
          refine rr_getI (pc := 20) (ji := 1) dX3_addBytes_20 fX3_19 zk_112 zr_112_1 rfl ?_
          rw [hT.1]
          refine rr_sipush (n := (600)) dX3_addBytes_23 ?_
          have hl1 : (L ++ aBy v (k + 1)).length = (L ++ aBy v k).length + 1 := by
            rw [aBy_s h16, ← List.append_assoc, List.length_append]
            rfl
          have hl2 : (L ++ aBy v (k + 1)).length ≤ 600 := by
            have := hmo (k := k + 1) (by omega)
            rw [List.length_append]; omega
          refine rr_icmp_ge (pc := 26) (tgt := 50) dX3_addBytes_26 (by decide) (by unfold zR; omega) (by unfold zR; omega) (fun h26 => ?_) (fun h26 => ?_)
          · omega
          · refine rr_aload_n (pc := 29) dX3_addBytes_29 rfl ?_
            refine rr_getR (pc := 30) dX3_addBytes_30 fX3_9 zk_112 zr_112_0 ?_
            refine rr_aload_n (pc := 33) dX3_addBytes_33 rfl ?_
            refine rr_getI (pc := 34) (ji := 1) dX3_addBytes_34 fX3_19 zk_112 zr_112_1 rfl ?_
            rw [hT.1]
            refine rr_iload_n (pc := 37) dX3_addBytes_37 rfl ?_
            refine rr_i2b (pc := 38) dX3_addBytes_38 ?_
            rw [z_bm2 hby.1 hby.2]
            refine rr_bast (pc := 39) dX3_addBytes_39 zk_113 (by omega) (by omega) (sB_rng (by omega) hby.2).1 (sB_rng (by omega) hby.2).2 ?_
            refine rr_aload_n (pc := 40) dX3_addBytes_40 rfl ?_
            refine rr_dup_r (pc := 41) dX3_addBytes_41 ?_
            refine rr_getI (pc := 42) (ji := 1) dX3_addBytes_42 fX3_19 zk_112 zr_112_1 rfl ?_
            rw [zup_k (show 112 ≠ 113 by decide), hT.1]
            refine rr_iconst (n := 1) dX3_addBytes_45 ?_
            refine rr_iadd (pc := 46) dX3_addBytes_46 ?_
            refine rr_put (pc := 47) (ji := 1) dX3_addBytes_47 fX3_19 fp_3_1 zk_112 zr_112_1 rfl ?_
            refine rr_iinc (pc := 50) dX3_addBytes_50 rfl (by decide) ?_
            refine rr_goto (pc := 53) (tgt := 3) dX3_addBytes_53 (by decide) ?_
            refine rr_eqL ?_ (ih (k + 1) _ (zI (bY v k)) (by omega) ⟨fun k g1 g2 => by rw [zup_other k g1, zup_other k g2]; exact hO.1 k g1 g2, fun j g => by rw [zup_i g, zup_k (by decide)]; exact hO.2 j g⟩ (by rw [aBy_s h16, ← List.append_assoc]; exact hT.app (by omega) (by omega) hby.2) (by omega))
            rw [e8]
            rfl
  refine rr_bipush (n := (24)) dX3_addBytes_0 ?_
  refine rr_istore_n (pc := 2) dX3_addBytes_2 (by decide) ?_
  exact loop _ 0 W _ (by omega) zOfft2.rf (by rw [show aBy v 0 = [] from rfl, List.append_nil]; exact hT) (Nat.lt_succ_self _)
