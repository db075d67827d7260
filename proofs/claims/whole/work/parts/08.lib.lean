def zcpy (W : zWd) (k0 k1 : Nat) (n : Int) : zWd := fun k i => if k = k1 ∧ 0 ≤ i ∧ i < n then W k0 i else W k i
theorem zcpy_k {W : zWd} {k0 k1 k : Nat} {n i : Int} (h : k ≠ k1) : zcpy W k0 k1 n k i = W k i := by simp [zcpy, h]
theorem zcpy_in {W : zWd} {k0 k1 : Nat} {n i : Int} (h0 : 0 ≤ i) (h1 : i < n) : zcpy W k0 k1 n k1 i = W k0 i := by simp [zcpy, h0, h1]
theorem zcpy_other {W : zWd} {k0 k1 : Nat} {n : Int} : ∀ k', k' ≠ k1 → zcpy W k0 k1 n k' = W k' := fun k' h => by funext i'; exact zcpy_k h
theorem z_cpyf (W : zWd) (k0 k1 n : Nat) : va_cpy (fun j : Nat => Int32.ofInt (W k0 j)) (fun j : Nat => Int32.ofInt (W k1 j)) (Int32.ofInt 0).toNatClampNeg (Int32.ofInt 0).toNatClampNeg n = fun j : Nat => Int32.ofInt (zcpy W k0 k1 n k1 j) := by
  funext j
  rw [show (Int32.ofInt 0).toNatClampNeg = 0 from rfl]
  unfold va_cpy zcpy
  by_cases hj : j < n
  · rw [if_pos ⟨Nat.zero_le _, by omega⟩, if_pos ⟨rfl, by omega, by omega⟩]
    simp
  · rw [if_neg (by omega), if_neg (by omega)]
theorem z_fitB {v : Int} (h0 : -128 ≤ v) (h1 : v < 128) : fits .byte (.int (Int32.ofInt v)) = true := by
  have h := fits_narrow_byte (Int32.ofInt v)
  have e : narrow .byte (.int (Int32.ofInt v)) = .int (vp_nar .byte (Int32.ofInt v)) := rfl
  rw [e, z_narB h0 h1] at h
  exact h
theorem z_nfw : nativeFrameWords "java/lang/System" "arraycopy" 5 ≤ 20 := by decide +kernel
section ZF
variable {M : zM} {d t : Nat} {W₀ : zWd} {pc : Nat} {ls st : List Value} {K : zK} {X : zX} {index : Nat}
theorem rr_copyI {k0 k1 n : Nat} {ni : Int} (hd : decode M.2.1 pc = .ok (.invokestatic index, 3)) (hl : Cond.methodLink M.1 index arraycopyName ∈ zWs) (hw : Cond.native arraycopyName ∈ zWs ∧ Cond.static arraycopyName ∈ zWs ∧ Cond.initialized "java/lang/System" ∈ zWs) (hk0 : zk k0 = (10, n)) (hk1 : zk k1 = (10, n)) (hdd : 1 ≤ d) (hst : (st.map fun v => v.category).sum ≤ 8) (hni : (n : Int) = ni) (k : RR M d t (zcpy W₀ k0 k1 ni) (pc + 3) ls st K X) : RR M d t W₀ pc ls (zI ni :: zI 0 :: .ref k1 :: zI 0 :: .ref k0 :: st) K X := by
  subst hni
  intro p l e R s m args below meth c cells slots Q D Y ad A hC hK hX H locs lsA hP hS hlv
  obtain ⟨⟨h1, h2, h3, h4, h5⟩, c2, c3, c4, c5, c6, c7, c8, c9, c10, c11, c12⟩ := id hC
  have e0 := zws_at Y ad W₀ (zk_lt hk0 (by omega))
  have hk9 := zk_lt hk1 (by omega)
  have e1 := zws_at Y ad W₀ hk9
  have hn := zk_len hk0
  rw [zc_int Y ad W₀ hk0] at e0
  rw [zc_int Y ad W₀ hk1] at e1
  have hcl : (Int32.ofInt (n : Int)).toNatClampNeg = n := by rw [z_clamp (by omega) (by omega)]; omega
  have hset := zws_set Y ad W₀ (zcpy W₀ k0 k1 n) hk9 (.inl (Y.1, n, .inl (fun j : Nat => Int32.ofInt (zcpy W₀ k0 k1 n k1 j)))) (zc_int Y ad _ hk1).symm zcpy_other
  refine va_copyi h1 h2 (h3.trans hlv.1.symm) h4 (h5 _ (List.mem_cons_of_mem _ hl)) (h5 _ (List.mem_cons_of_mem _ hw.1)) (h5 _ (List.mem_cons_of_mem _ hw.2.1)) (h5 _ (List.mem_cons_of_mem _ hw.2.2)) c6.1 hP (c7.D Y W₀) hS k0 k1 0 0 e0 e1 rfl rfl rfl (by decide) (by decide) (fun q => ?_) ?_ ?_ (fun i _ => rfl) (by omega) ?_ hd (fun H1 locs1 hP1 _ hS1 => ?_)
  · exact absurd ((zR_lt ⟨by omega, by omega⟩ zR_zero).mp q) (by omega)
  · rw [hcl]; show 0 + n ≤ n; omega
  · rw [hcl]; show 0 + n ≤ n; omega
  · have := z_nfw; rw [zts_cat ad st]; omega
  · rw [hcl, z_cpyf, hset] at hP1
    exact k p l e R s m args below meth c cells slots Q D Y ad A hC hK hX H1 locs1 lsA hP1 hS1 hlv
theorem rr_copyB {k0 k1 n : Nat} {ni : Int} (hd : decode M.2.1 pc = .ok (.invokestatic index, 3)) (hl : Cond.methodLink M.1 index arraycopyName ∈ zWs) (hw : Cond.native arraycopyName ∈ zWs ∧ Cond.static arraycopyName ∈ zWs ∧ Cond.initialized "java/lang/System" ∈ zWs) (hk0 : zk k0 = (11, n)) (hk1 : zk k1 = (11, n)) (hb : ∀ i : Int, 0 ≤ i → i < n → -128 ≤ W₀ k0 i ∧ W₀ k0 i < 128) (hdd : 1 ≤ d) (hst : (st.map fun v => v.category).sum ≤ 8) (hni : (n : Int) = ni) (k : RR M d t (zcpy W₀ k0 k1 ni) (pc + 3) ls st K X) : RR M d t W₀ pc ls (zI ni :: zI 0 :: .ref k1 :: zI 0 :: .ref k0 :: st) K X := by
  subst hni
  intro p l e R s m args below meth c cells slots Q D Y ad A hC hK hX H locs lsA hP hS hlv
  obtain ⟨⟨h1, h2, h3, h4, h5⟩, c2, c3, c4, c5, c6, c7, c8, c9, c10, c11, c12⟩ := id hC
  have e0 := zws_at Y ad W₀ (zk_lt hk0 (by omega))
  have hk9 := zk_lt hk1 (by omega)
  have e1 := zws_at Y ad W₀ hk9
  have hn := zk_len hk0
  rw [zc_byte Y ad W₀ hk0] at e0
  rw [zc_byte Y ad W₀ hk1] at e1
  have hcl : (Int32.ofInt (n : Int)).toNatClampNeg = n := by rw [z_clamp (by omega) (by omega)]; omega
  have hset := zws_set Y ad W₀ (zcpy W₀ k0 k1 n) hk9 (.inl (Y.2.1, n, .inl (fun j : Nat => Int32.ofInt (zcpy W₀ k0 k1 n k1 j)))) (zc_byte Y ad _ hk1).symm zcpy_other
  refine va_copyi h1 h2 (h3.trans hlv.1.symm) h4 (h5 _ (List.mem_cons_of_mem _ hl)) (h5 _ (List.mem_cons_of_mem _ hw.1)) (h5 _ (List.mem_cons_of_mem _ hw.2.1)) (h5 _ (List.mem_cons_of_mem _ hw.2.2)) c6.1 hP (c7.D Y W₀) hS k0 k1 1 1 e0 e1 rfl rfl rfl (by decide) (by decide) (fun q => ?_) ?_ ?_ (fun i hi => ?_) (by omega) ?_ hd (fun H1 locs1 hP1 _ hS1 => ?_)
  · exact absurd ((zR_lt ⟨by omega, by omega⟩ zR_zero).mp q) (by omega)
  · rw [hcl]; show 0 + n ≤ n; omega
  · rw [hcl]; show 0 + n ≤ n; omega
  · rw [hcl] at hi
    show fits .byte (.int (Int32.ofInt (W₀ k0 ((0 + i : Nat) : Int)))) = true
    exact z_fitB (hb _ (by omega) (by omega)).1 (hb _ (by omega) (by omega)).2
  · have := z_nfw; rw [zts_cat ad st]; omega
  · rw [hcl, z_cpyf, hset] at hP1
    exact k p l e R s m args below meth c cells slots Q D Y ad A hC hK hX H1 locs1 lsA hP1 hS1 hlv
theorem rr_max {a b : Int} (hd : decode M.2.1 pc = .ok (.invokestatic index, 3)) (hl : Cond.methodLink M.1 index Lib.Math.max.name ∈ zWs) (hw : Cond.static Lib.Math.max.name ∈ zWs ∧ Cond.initialized "java/lang/Math" ∈ zWs ∧ Cond.code Lib.Math.max.name Lib.Math.max.code 2 (some .int) ∈ zWs) (ha : zR a) (hb : zR b) (hdd : 1 ≤ d) (hst : (st.map fun v => v.category).sum ≤ 8) (k : RR M d t W₀ (pc + 3) ls (zI (if a < b then b else a) :: st) K X) : RR M d t W₀ pc ls (zI b :: zI a :: st) K X := by
  intro p l e R s m args below meth c cells slots Q D Y ad A hC hK hX H locs lsA hP hS hlv
  obtain ⟨⟨h1, h2, h3, h4, h5⟩, c2, c3, c4, c5, c6, c7, c8, c9, c10, c11, c12⟩ := id hC
  refine va_mmax h1 h2 (h3.trans hlv.1.symm) h4 (h5 _ (List.mem_cons_of_mem _ hl)) (h5 _ (List.mem_cons_of_mem _ hw.1)) (h5 _ (List.mem_cons_of_mem _ hw.2.1)) (h5 _ (List.mem_cons_of_mem _ hw.2.2)) (by omega) ?_ (by omega) (by omega) hd ?_
  · rw [zts_cat ad st]; omega
  · have h9 := k p l e R s m args below meth c cells slots Q D Y ad A hC hK hX H locs lsA hP hS hlv
    have e9 : (if Int32.ofInt a < Int32.ofInt b then Int32.ofInt b else Int32.ofInt a) = Int32.ofInt (if a < b then b else a) := by
      by_cases q : a < b
      · rw [if_pos q, if_pos ((zR_lt ha hb).mpr q)]
      · rw [if_neg q, if_neg (fun z => q ((zR_lt ha hb).mp z))]
    rw [e9]
    exact h9
theorem rr_min {a b : Int} (hd : decode M.2.1 pc = .ok (.invokestatic index, 3)) (hl : Cond.methodLink M.1 index Lib.Math.min.name ∈ zWs) (hw : Cond.static Lib.Math.min.name ∈ zWs ∧ Cond.initialized "java/lang/Math" ∈ zWs ∧ Cond.code Lib.Math.min.name Lib.Math.min.code 2 (some .int) ∈ zWs) (ha : zR a) (hb : zR b) (hdd : 1 ≤ d) (hst : (st.map fun v => v.category).sum ≤ 8) (k : RR M d t W₀ (pc + 3) ls (zI (if b < a then b else a) :: st) K X) : RR M d t W₀ pc ls (zI b :: zI a :: st) K X := by
  intro p l e R s m args below meth c cells slots Q D Y ad A hC hK hX H locs lsA hP hS hlv
  obtain ⟨⟨h1, h2, h3, h4, h5⟩, c2, c3, c4, c5, c6, c7, c8, c9, c10, c11, c12⟩ := id hC
  refine va_mmin h1 h2 (h3.trans hlv.1.symm) h4 (h5 _ (List.mem_cons_of_mem _ hl)) (h5 _ (List.mem_cons_of_mem _ hw.1)) (h5 _ (List.mem_cons_of_mem _ hw.2.1)) (h5 _ (List.mem_cons_of_mem _ hw.2.2)) (by omega) ?_ (by omega) (by omega) hd ?_
  · rw [zts_cat ad st]; omega
  · have h9 := k p l e R s m args below meth c cells slots Q D Y ad A hC hK hX H locs lsA hP hS hlv
    have e9 : (if Int32.ofInt b < Int32.ofInt a then Int32.ofInt b else Int32.ofInt a) = Int32.ofInt (if b < a then b else a) := by
      by_cases q : b < a
      · rw [if_pos q, if_pos ((zR_lt hb ha).mpr q)]
      · rw [if_neg q, if_neg (fun z => q ((zR_lt hb ha).mp z))]
    rw [e9]
    exact h9
end ZF
