/-- a link of the pool of 'own': field j of the objects of kind ci -/
def zFl (own : String) (index ci j : Nat) : Prop := ∃ (C : String) (T : u_T), vwCl[ci]? = some (C, T, znf ci) ∧ ci < 8 ∧ j < znf ci ∧ (∀ w ∈ u_ws C T (znf ci), w ∈ zWs) ∧ (∃ ty0 : Nat → FieldType, ∀ k, k < znf ci → parseFieldDescriptor (T k).2.2.1 = some (ty0 k)) ∧ (∀ a, a < znf ci → ∀ b, b < znf ci → a ≠ b → (T a).2.1 ≠ (T b).2.1) ∧
  (Cond.fieldLink own index (T j).1 (T j).2.1 (T j).2.2.1 ∈ zWs ∨ ∃ host, Cond.fieldLinkNest own index (T j).1 (T j).2.1 (T j).2.2.1 host ∈ zNst)
/-- it holds an int that may be written -/
def zFp (ci j : Nat) : Prop := ∀ (C : String) (T : u_T), vwCl[ci]? = some (C, T, znf ci) → (T j).2.2.2 = false ∧ (T j).2.2.1 = "I"
theorem zfv_i {ad : Nat → Nat} {W : zWd} {k j : Nat} (h : zr k j = none) : zfv ad W k j = zt ad (zI (W k j)) := by
  simp only [zfv, h]; rfl
theorem zfv_r {ad : Nat → Nat} {W : zWd} {k j r : Nat} (h : zr k j = some r) : zfv ad W k j = zt ad (.ref r) := by
  simp only [zfv, h]; rfl
theorem zfs_at {ad : Nat → Nat} {W : zWd} {k n j : Nat} (h : j < n) : ((List.range n).map (zfv ad W k))[j]? = some (zfv ad W k j) := by
  simp [h]
section ZC
variable {M : zM} {d t : Nat} {W₀ : zWd} {pc : Nat} {ls st : List Value} {K : zK} {X : zX}
theorem rr_get {index ci j k : Nat} {v : Value} (hd : decode M.2.1 pc = .ok (.getfield index, 3)) (hf : zFl M.1 index ci j) (hk : zk k = (ci, 0)) (hv : ∀ ad, zfv ad W₀ k j = zt ad v) (kk : RR M d t W₀ (pc + 3) ls (v :: st) K X) : RR M d t W₀ pc ls (.ref k :: st) K X := by
  intro p l e R s m args below meth c cells slots Q D Y ad A hC hK hX H locs lsA hP hS hl
  obtain ⟨C, T, hcl, hci, hj, hws, -, -, hlk⟩ := hf
  obtain ⟨⟨h1, h2, h3, h4, h5⟩, -, -, -, -, ⟨h6, h7, -⟩, -⟩ := id hC
  have hk9 := zk_lt hk (by omega)
  have hin : ∀ w ∈ u_ws C T (znf ci), w ∈ zwM M := fun w hw => List.mem_cons_of_mem _ (hws w hw)
  have he := zws_at Y ad W₀ hk9
  rw [zc_obj Y ad W₀ hk hci] at he
  have h9 := kk p l e R s m args below meth c cells slots Q D Y ad A hC hK hX H locs lsA hP hS hl
  have hvv : ((List.range (znf ci)).map (zfv ad W₀ k))[j]? = some (zt ad v) := by rw [zfs_at hj, hv ad]
  rcases hlk with hw | ⟨host, hw⟩
  · exact va_get h1 h2 h5 hin h4 h6 hP k he hcl j hj (h5 _ (List.mem_cons_of_mem _ hw)) (fun _ h => h) hvv hd h9
  · exact va_getN h1 h2 h5 hin h4 h6 hP k he hcl j hj (va_Nw.use (zNst_on hw) (h7 _ hw)) (fun _ h => h) hvv hd h9
theorem rr_getI {index ci j k : Nat} {ji : Int} (hd : decode M.2.1 pc = .ok (.getfield index, 3)) (hf : zFl M.1 index ci j) (hk : zk k = (ci, 0)) (hr : zr k j = none) (hji : (j : Int) = ji) (kk : RR M d t W₀ (pc + 3) ls (zI (W₀ k ji) :: st) K X) : RR M d t W₀ pc ls (.ref k :: st) K X := by
  subst hji
  exact rr_get hd hf hk (fun _ => zfv_i hr) kk
theorem rr_getR {index ci j k r : Nat} (hd : decode M.2.1 pc = .ok (.getfield index, 3)) (hf : zFl M.1 index ci j) (hk : zk k = (ci, 0)) (hr : zr k j = some r) (kk : RR M d t W₀ (pc + 3) ls (.ref r :: st) K X) : RR M d t W₀ pc ls (.ref k :: st) K X :=
  rr_get hd hf hk (fun _ => zfv_r hr) kk
theorem rr_put {index ci j k : Nat} {v ji : Int} (hd : decode M.2.1 pc = .ok (.putfield index, 3)) (hf : zFl M.1 index ci j) (hp : zFp ci j) (hk : zk k = (ci, 0)) (hr : zr k j = none) (hji : (j : Int) = ji) (kk : RR M d t (zup W₀ k ji v) (pc + 3) ls st K X) : RR M d t W₀ pc ls (zI v :: .ref k :: st) K X := by
  subst hji
  intro p l e R s m args below meth c cells slots Q D Y ad A hC hK hX H locs lsA hP hS hl
  obtain ⟨C, T, hcl, hci, hj, hws, ⟨ty0, hty⟩, hnm, hlk⟩ := hf
  obtain ⟨hfin, hd9⟩ := hp C T hcl
  obtain ⟨⟨h1, h2, h3, h4, h5⟩, -, -, -, -, ⟨h6, h7, -⟩, hAd, -⟩ := id hC
  have hk9 := zk_lt hk (by omega)
  have hin : ∀ w ∈ u_ws C T (znf ci), w ∈ zwM M := fun w hw => List.mem_cons_of_mem _ (hws w hw)
  have he := zws_at Y ad W₀ hk9
  rw [zc_obj Y ad W₀ hk hci] at he
  have hset := zws_set Y ad W₀ (zup W₀ k j v) hk9 _ (zc_putF Y ad W₀ hk hci hj hr v) zup_other
  have hdd : parseFieldDescriptor (T j).2.2.1 = some .int := by rw [hd9]; rfl
  have kk9 : ∀ (H1 : Heap) (locs1 : List Loc), va_P D vwCl ((zws Y ad W₀).set k (ad k, .inr (ci, ((List.range (znf ci)).map (zfv ad W₀ k)).set j (zI v)))) H1 → va_D A ((zws Y ad W₀).set k (ad k, .inr (ci, ((List.range (znf ci)).map (zfv ad W₀ k)).set j (zI v)))) → va_S A s.heap H1 locs1 → W p l e R s m args below meth c H1 locs1 cells slots Q (F0 m (pc + 3) lsA (zts ad st)) := by
    intro H1 locs1 hP1 _ hS1
    rw [hset] at hP1
    exact kk p l e R s m args below meth c cells slots Q D Y ad A hC hK hX H1 locs1 lsA hP1 hS1 hl
  rcases hlk with hw | ⟨host, hw⟩
  · exact va_put h1 h2 h5 hin ty0 hty hnm h4 h6 hP (hAd.D Y W₀) hS k he hcl j hj (h5 _ (List.mem_cons_of_mem _ hw)) (fun _ h => h) hfin hdd rfl rfl (by simpa using hj) hd kk9
  · exact va_putN h1 h2 h5 hin ty0 hty hnm h4 h6 hP (hAd.D Y W₀) hS k he hcl j hj (va_Nw.use (zNst_on hw) (h7 _ hw)) (fun _ h => h) hfin hdd rfl rfl (by simpa using hj) hd kk9
theorem z_rd (W : zWd) (k : Nat) {i : Int} {n : Nat} (h0 : 0 ≤ i) (h1 : i < n) (hn : n < 2147483648) : Int32.ofInt (W k ((Int32.ofInt i).toNatClampNeg : Nat)) = Int32.ofInt (W k i) := by
  rw [z_clamp h0 (by omega), show ((i.toNat : Nat) : Int) = i by omega]
theorem rr_iald {k n : Nat} {i : Int} (hd : decode M.2.1 pc = .ok (.iaload, 1)) (hk : zk k = (10, n)) (h0 : 0 ≤ i) (h1 : i < n) (kk : RR M d t W₀ (pc + 1) ls (zI (W₀ k i) :: st) K X) : RR M d t W₀ pc ls (zI i :: .ref k :: st) K X := by
  intro p l e R s m args below meth c cells slots Q D Y ad A hC hK hX H locs lsA hP hS hl
  obtain ⟨⟨g1, g2, g3, g4, g5⟩, -, -, -, -, ⟨h6, h7, -⟩, hAd, -⟩ := id hC
  have he := zws_at Y ad W₀ (zk_lt hk (by omega))
  rw [zc_int Y ad W₀ hk] at he
  refine va_iald g1 g2 h6 hP k 0 he rfl (z_in h0 h1 (zk_len hk)) hd ?_
  rw [z_rd W₀ k h0 h1 (zk_len hk)]
  exact kk p l e R s m args below meth c cells slots Q D Y ad A hC hK hX H locs lsA hP hS hl
theorem rr_bald {k n : Nat} {i : Int} (hd : decode M.2.1 pc = .ok (.baload, 1)) (hk : zk k = (11, n)) (h0 : 0 ≤ i) (h1 : i < n) (kk : RR M d t W₀ (pc + 1) ls (zI (W₀ k i) :: st) K X) : RR M d t W₀ pc ls (zI i :: .ref k :: st) K X := by
  intro p l e R s m args below meth c cells slots Q D Y ad A hC hK hX H locs lsA hP hS hl
  obtain ⟨⟨g1, g2, g3, g4, g5⟩, -, -, -, -, ⟨h6, h7, -⟩, hAd, -⟩ := id hC
  have he := zws_at Y ad W₀ (zk_lt hk (by omega))
  rw [zc_byte Y ad W₀ hk] at he
  refine va_bald g1 g2 h6 hP k 1 he rfl (z_in h0 h1 (zk_len hk)) hd ?_
  rw [z_rd W₀ k h0 h1 (zk_len hk)]
  exact kk p l e R s m args below meth c cells slots Q D Y ad A hC hK hX H locs lsA hP hS hl
theorem rr_zald {k n : Nat} {i : Int} (hd : decode M.2.1 pc = .ok (.baload, 1)) (hk : zk k = (12, n)) (h0 : 0 ≤ i) (h1 : i < n) (kk : RR M d t W₀ (pc + 1) ls (zI (W₀ k i) :: st) K X) : RR M d t W₀ pc ls (zI i :: .ref k :: st) K X := by
  intro p l e R s m args below meth c cells slots Q D Y ad A hC hK hX H locs lsA hP hS hl
  obtain ⟨⟨g1, g2, g3, g4, g5⟩, -, -, -, -, ⟨h6, h7, -⟩, hAd, -⟩ := id hC
  have he := zws_at Y ad W₀ (zk_lt hk (by omega))
  rw [zc_bool Y ad W₀ hk] at he
  refine va_zald g1 g2 h6 hP k 2 he rfl (z_in h0 h1 (zk_len hk)) hd ?_
  rw [z_rd W₀ k h0 h1 (zk_len hk)]
  exact kk p l e R s m args below meth c cells slots Q D Y ad A hC hK hX H locs lsA hP hS hl
theorem rr_iast {k n : Nat} {i v : Int} (hd : decode M.2.1 pc = .ok (.iastore, 1)) (hk : zk k = (10, n)) (h0 : 0 ≤ i) (h1 : i < n) (kk : RR M d t (zup W₀ k i v) (pc + 1) ls st K X) : RR M d t W₀ pc ls (zI v :: zI i :: .ref k :: st) K X := by
  intro p l e R s m args below meth c cells slots Q D Y ad A hC hK hX H locs lsA hP hS hl
  obtain ⟨⟨g1, g2, g3, g4, g5⟩, -, -, -, -, ⟨h6, h7, -⟩, hAd, -⟩ := id hC
  have hk9 := zk_lt hk (by omega)
  have he := zws_at Y ad W₀ hk9
  rw [zc_int Y ad W₀ hk] at he
  have hset := zws_set Y ad W₀ (zup W₀ k i v) hk9 _ (zc_putA Y ad W₀ hk h0 h1 (v := v)) zup_other
  refine va_iast g1 g2 h6 hP (hAd.D Y W₀) hS k 0 he rfl (z_in h0 h1 (zk_len hk)) hd (fun H1 locs1 hP1 _ hS1 => ?_)
  rw [hset] at hP1
  exact kk p l e R s m args below meth c cells slots Q D Y ad A hC hK hX H1 locs1 lsA hP1 hS1 hl
theorem z_narB {v : Int} (h0 : -128 ≤ v) (h1 : v < 128) : vp_nar .byte (Int32.ofInt v) = Int32.ofInt v := by
  rw [vp_nar_byte, z_i2b]
  congr 1
  rw [Int.bmod_def]
  omega
theorem rr_bast {k n : Nat} {i v : Int} (hd : decode M.2.1 pc = .ok (.bastore, 1)) (hk : zk k = (11, n)) (h0 : 0 ≤ i) (h1 : i < n) (hv0 : -128 ≤ v) (hv1 : v < 128) (kk : RR M d t (zup W₀ k i v) (pc + 1) ls st K X) : RR M d t W₀ pc ls (zI v :: zI i :: .ref k :: st) K X := by
  intro p l e R s m args below meth c cells slots Q D Y ad A hC hK hX H locs lsA hP hS hl
  obtain ⟨⟨g1, g2, g3, g4, g5⟩, -, -, -, -, ⟨h6, h7, -⟩, hAd, -⟩ := id hC
  have hk9 := zk_lt hk (by omega)
  have he := zws_at Y ad W₀ hk9
  rw [zc_byte Y ad W₀ hk] at he
  have hset := zws_set Y ad W₀ (zup W₀ k i v) hk9 _ (zc_putB Y ad W₀ hk h0 h1 (v := v)) zup_other
  refine va_bast g1 g2 h6 hP (hAd.D Y W₀) hS k 1 he rfl (z_in h0 h1 (zk_len hk)) hd (fun H1 locs1 hP1 _ hS1 => ?_)
  rw [z_narB hv0 hv1, hset] at hP1
  exact kk p l e R s m args below meth c cells slots Q D Y ad A hC hK hX H1 locs1 lsA hP1 hS1 hl
theorem rr_zast1 {k n : Nat} {i : Int} (hd : decode M.2.1 pc = .ok (.bastore, 1)) (hk : zk k = (12, n)) (h0 : 0 ≤ i) (h1 : i < n) (kk : RR M d t (zup W₀ k i 1) (pc + 1) ls st K X) : RR M d t W₀ pc ls (zI 1 :: zI i :: .ref k :: st) K X := by
  intro p l e R s m args below meth c cells slots Q D Y ad A hC hK hX H locs lsA hP hS hl
  obtain ⟨⟨g1, g2, g3, g4, g5⟩, -, -, -, -, ⟨h6, h7, -⟩, hAd, -⟩ := id hC
  have hk9 := zk_lt hk (by omega)
  have he := zws_at Y ad W₀ hk9
  rw [zc_bool Y ad W₀ hk] at he
  have hset := zws_set Y ad W₀ (zup W₀ k i 1) hk9 _ (zc_putZ Y ad W₀ hk h0 h1 (v := 1)) zup_other
  refine va_zast g1 g2 h6 hP (hAd.D Y W₀) hS k 2 he rfl (z_in h0 h1 (zk_len hk)) hd (fun H1 locs1 hP1 _ hS1 => ?_)
  rw [show vp_nar .boolean (Int32.ofInt 1) = Int32.ofInt 1 from rfl, hset] at hP1
  exact kk p l e R s m args below meth c cells slots Q D Y ad A hC hK hX H1 locs1 lsA hP1 hS1 hl
theorem rr_aald {k n r : Nat} {i : Int} (hd : decode M.2.1 pc = .ok (.aaload, 1)) (hk : zk k = (13, n)) (h0 : 0 ≤ i) (h1 : i < n) (hr : zr k i.toNat = some r) (kk : RR M d t W₀ (pc + 1) ls (.ref r :: st) K X) : RR M d t W₀ pc ls (zI i :: .ref k :: st) K X := by
  intro p l e R s m args below meth c cells slots Q D Y ad A hC hK hX H locs lsA hP hS hl
  obtain ⟨⟨g1, g2, g3, g4, g5⟩, -, -, -, -, ⟨h6, h7, -⟩, hAd, -⟩ := id hC
  have he := zws_at Y ad W₀ (zk_lt hk (by omega))
  rw [zc_refs Y ad W₀ hk] at he
  refine va_aldq g1 g2 h6 hP k 3 he rfl (z_in h0 h1 (zk_len hk)) hd ?_
  rw [z_clamp h0 (by have := zk_len hk; omega)]
  show W p l e R s m args below meth c H locs cells slots Q (F0 m (pc + 1) lsA (va_rf ((zr k i.toNat).map ad) :: zts ad st))
  rw [hr]
  exact kk p l e R s m args below meth c cells slots Q D Y ad A hC hK hX H locs lsA hP hS hl
theorem rr_alen {k n ci : Nat} {ni : Int} (hd : decode M.2.1 pc = .ok (.arraylength, 1)) (hk : zk k = (ci, n)) (hci : ci = 10 ∨ ci = 11) (hni : (n : Int) = ni) (kk : RR M d t W₀ (pc + 1) ls (zI ni :: st) K X) : RR M d t W₀ pc ls (.ref k :: st) K X := by
  subst hni
  intro p l e R s m args below meth c cells slots Q D Y ad A hC hK hX H locs lsA hP hS hl
  obtain ⟨⟨g1, g2, g3, g4, g5⟩, -, -, -, -, ⟨h6, h7, -⟩, hAd, -⟩ := id hC
  have he := zws_at Y ad W₀ (zk_lt hk (by omega))
  have h9 := kk p l e R s m args below meth c cells slots Q D Y ad A hC hK hX H locs lsA hP hS hl
  rcases hci with rfl | rfl
  · rw [zc_int Y ad W₀ hk] at he
    exact va_alen g1 g2 h6 hP k 0 he rfl (v := Int32.ofInt n) rfl hd h9
  · rw [zc_byte Y ad W₀ hk] at he
    exact va_alen g1 g2 h6 hP k 1 he rfl (v := Int32.ofInt n) rfl hd h9
end ZC
