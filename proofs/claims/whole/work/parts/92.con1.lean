theorem zcw_obj (Y : zY) (ad : Nat → Nat) (W : zWd) {k ci : Nat} (h : zk k = (ci, 0)) (hc : ci < 8) : zcw Y ad W k = .inr (ci, (List.range (znf ci)).map (zfw ad W k)) := by
  unfold zcw
  rw [h]
  show (if ci = 13 then _ else if ci < 8 then _ else _) = _
  rw [if_neg (by omega), if_pos hc]
theorem zcw_z (Y : zY) (ad : Nat → Nat) (W : zWd) {k c n : Nat} (hk : zk k = (c, n)) (h : c ≠ 13) (h8 : 8 ≤ c) : zcw Y ad W k = zc Y ad W k := by
  unfold zcw
  rw [hk]
  show (if c = 13 then _ else if c < 8 then _ else _) = _
  rw [if_neg h, if_neg (by omega)]
theorem zcw_refs (Y : zY) (ad : Nat → Nat) (W : zWd) {k n : Nat} (h : zk k = (13, n)) : zcw Y ad W k = .inl (Y.2.2.2.1, n, .inr (.inr (.inr (.inr (fun j => if j < n ∧ W k j ≠ 0 then (zr k j).map ad else none))))) := by
  unfold zcw
  rw [h]
  exact if_pos rfl
theorem zfw_at {ad : Nat → Nat} {W : zWd} {k n j : Nat} (h : j < n) : ((List.range n).map (zfw ad W k))[j]? = some (zfw ad W k j) := by simp [h]
/-- a field is written -/
theorem zcw_put (Y : zY) (ad : Nat → Nat) (W : zWd) {k ci j : Nat} {v : Value} {x : Int} (h : zk k = (ci, 0)) (hc : ci < 8) (hj : j < znf ci) (hv : v = zfw ad (zup W k j x) k j) : (.inr (ci, ((List.range (znf ci)).map (zfw ad W k)).set j v) : va_E) = zcw Y ad (zup W k j x) k := by
  rw [zcw_obj Y ad _ h hc]
  congr 2
  apply List.ext_getElem?
  intro i
  rw [List.getElem?_set]
  by_cases hi : j = i
  · subst hi
    simp [hj, hv]
  · rw [if_neg hi]
    simp only [List.getElem?_map]
    by_cases hi2 : i < znf ci
    · have h9 : zfw ad (zup W k j x) k i = zfw ad W k i := by
        simp only [zfw, zup_i (show (i : Int) ≠ (j : Int) by omega)]
      simp [hi2, h9]
    · rw [List.getElem?_eq_none (by simp; omega)]
      rfl
section ZM
variable {M : zM} {d w N : Nat} {W₀ : zWd} {pc : Nat} {ls st : List Value} {K : zKL}
theorem rl_get {index ci j k n : Nat} {v : Value} (hd : decode M.2.1 pc = .ok (.getfield index, 3)) (hf : zFl M.1 index ci j) (hk : zk k = (ci, 0)) (hn : n < N) (hi : zov n = k) (hv : ∀ ad, zfw ad W₀ k j = zt ad v) (kk : RN M d w N W₀ (pc + 3) ls (v :: st) K) : RN M d w N W₀ pc ls (.ref k :: st) K := by
  intro p l e R s m args below meth c cells slots Q D Y ad A hC hK H locs lsA hP hS hl
  obtain ⟨C, T, hcl, hci, hj, hws, -, -, hlk⟩ := hf
  obtain ⟨⟨h1, h2, h3, h4, h5⟩, -, -, -, ⟨h6, h7, -⟩, -⟩ := id hC
  have hin : ∀ w ∈ u_ws C T (znf ci), w ∈ zwM M := fun w hw => List.mem_cons_of_mem _ (hws w hw)
  have he := zww_at Y ad W₀ hn hi
  rw [zcw_obj Y ad W₀ hk hci] at he
  have h9 := kk p l e R s m args below meth c cells slots Q D Y ad A hC hK H locs lsA hP hS hl
  have hvv : ((List.range (znf ci)).map (zfw ad W₀ k))[j]? = some (zt ad v) := by rw [zfw_at hj, hv ad]
  rcases hlk with hw | ⟨host, hw⟩
  · exact va_get h1 h2 h5 hin h4 h6 hP.1 n he hcl j hj (h5 _ (List.mem_cons_of_mem _ hw)) (fun _ h => h) hvv hd h9
  · exact va_getN h1 h2 h5 hin h4 h6 hP.1 n he hcl j hj (va_Nw.use (zNst_on hw) (h7 _ hw)) (fun _ h => h) hvv hd h9
theorem rl_getI {index ci j k n : Nat} {ji : Int} (hd : decode M.2.1 pc = .ok (.getfield index, 3)) (hf : zFl M.1 index ci j) (hk : zk k = (ci, 0)) (hn : n < N) (hi : zov n = k) (hr : zr k j = none) (hji : (j : Int) = ji) (kk : RN M d w N W₀ (pc + 3) ls (zI (W₀ k ji) :: st) K) : RN M d w N W₀ pc ls (.ref k :: st) K := by
  subst hji
  exact rl_get hd hf hk hn hi (fun ad => by unfold zfw; rw [hr]; rfl) kk
theorem rl_getR {index ci j k r n : Nat} (hd : decode M.2.1 pc = .ok (.getfield index, 3)) (hf : zFl M.1 index ci j) (hk : zk k = (ci, 0)) (hn : n < N) (hi : zov n = k) (hr : zr k j = some r) (hz : W₀ k j ≠ 0) (kk : RN M d w N W₀ (pc + 3) ls (.ref r :: st) K) : RN M d w N W₀ pc ls (.ref k :: st) K :=
  rl_get hd hf hk hn hi (fun ad => by unfold zfw; rw [hr]; exact if_neg hz) kk
theorem rl_put {index ci j k n : Nat} {v ji : Int} (hd : decode M.2.1 pc = .ok (.putfield index, 3)) (hf : zFl M.1 index ci j) (hp : zFp ci j) (hk : zk k = (ci, 0)) (hn : n < N) (hN : N ≤ 129) (hi : zov n = k) (hr : zr k j = none) (hji : (j : Int) = ji) (kk : RN M d w N (zup W₀ k ji v) (pc + 3) ls st K) : RN M d w N W₀ pc ls (zI v :: .ref k :: st) K := by
  subst hji
  intro p l e R s m args below meth c cells slots Q D Y ad A hC hK H locs lsA hP hS hl
  obtain ⟨C, T, hcl, hci, hj, hws, ⟨ty0, hty⟩, hnm, hlk⟩ := hf
  obtain ⟨hfin, hd9⟩ := hp C T hcl
  obtain ⟨⟨h1, h2, h3, h4, h5⟩, -, -, -, ⟨h6, h7, -⟩, -⟩ := id hC
  have hin : ∀ w ∈ u_ws C T (znf ci), w ∈ zwM M := fun w hw => List.mem_cons_of_mem _ (hws w hw)
  have he := zww_at Y ad W₀ hn hi
  rw [zcw_obj Y ad W₀ hk hci] at he
  have hset := zww_set Y ad W₀ (zup W₀ k j v) hn hN hi _ (zcw_put Y ad W₀ hk hci hj (v := zI v) (x := v) (by unfold zfw; rw [hr, zup_s]; rfl)) zup_other
  have hdd : parseFieldDescriptor (T j).2.2.1 = some .int := by rw [hd9]; rfl
  have kk9 : ∀ (H1 : Heap) (locs1 : List Loc), va_P D vwCl ((zww Y ad W₀ N).set n (ad k, .inr (ci, ((List.range (znf ci)).map (zfw ad W₀ k)).set j (zI v)))) H1 → va_D A ((zww Y ad W₀ N).set n (ad k, .inr (ci, ((List.range (znf ci)).map (zfw ad W₀ k)).set j (zI v)))) → va_S A s.heap H1 locs1 → W p l e R s m args below meth c H1 locs1 cells slots Q (F0 m (pc + 3) lsA (zts ad st)) := by
    intro H1 locs1 hP1 hD1 hS1
    rw [hset] at hP1 hD1
    exact kk p l e R s m args below meth c cells slots Q D Y ad A hC hK H1 locs1 lsA ⟨hP1, hD1⟩ hS1 hl
  rcases hlk with hw | ⟨host, hw⟩
  · exact va_put h1 h2 h5 hin ty0 hty hnm h4 h6 hP.1 hP.2 hS n he hcl j hj (h5 _ (List.mem_cons_of_mem _ hw)) (fun _ h => h) hfin hdd rfl rfl (by simpa using hj) hd kk9
  · exact va_putN h1 h2 h5 hin ty0 hty hnm h4 h6 hP.1 hP.2 hS n he hcl j hj (va_Nw.use (zNst_on hw) (h7 _ hw)) (fun _ h => h) hfin hdd rfl rfl (by simpa using hj) hd kk9
/-- a final field, in its class's <init>: a reference (then 1 stands for it), or a number -/
theorem rl_putF {index ci j k n : Nat} {v : Value} {x : Int} {C : String} {T : u_T} {ty0 : Nat → FieldType} {ty : FieldType} (hd : decode M.2.1 pc = .ok (.putfield index, 3)) (hcl : vwCl[ci]? = some (C, T, znf ci)) (hci : ci < 8) (hj : j < znf ci) (hws : ∀ w ∈ u_ws C T (znf ci), w ∈ zWs) (hty : ∀ k, k < znf ci → parseFieldDescriptor (T k).2.2.1 = some (ty0 k)) (hnm : ∀ a, a < znf ci → ∀ b, b < znf ci → a ≠ b → (T a).2.1 ≠ (T b).2.1) (hlk : Cond.fieldLink M.1 index (T j).1 (T j).2.1 (T j).2.2.1 ∈ zWs) (hfin : (T j).2.2.2 = true) (hdecl : (T j).1 = M.1) (hin2 : M.2.2.2.1.name = "<init>") (hd9 : parseFieldDescriptor (T j).2.2.1 = some ty) (hnr : ∀ ad, narrow ty (zt ad v) = zt ad v) (hft : ∀ ad, fits ty (zt ad v) = true)
    (hk : zk k = (ci, 0)) (hn : n < N) (hN : N ≤ 129) (hi : zov n = k) (hv : ∀ ad, zt ad v = zfw ad (zup W₀ k j x) k j) (kk : RN M d w N (zup W₀ k j x) (pc + 3) ls st K) : RN M d w N W₀ pc ls (v :: .ref k :: st) K := by
  intro p l e R s m args below meth c cells slots Q D Y ad A hC hK H locs lsA hP hS hl
  obtain ⟨⟨h1, h2, h3, h4, h5⟩, c2, c3, c4, ⟨h6, h7, -⟩, -⟩ := id hC
  have hin : ∀ w ∈ u_ws C T (znf ci), w ∈ zwM M := fun w hw => List.mem_cons_of_mem _ (hws w hw)
  have he := zww_at Y ad W₀ hn hi
  rw [zcw_obj Y ad W₀ hk hci] at he
  have hset := zww_set Y ad W₀ (zup W₀ k j x) hn hN hi _ (zcw_put Y ad W₀ hk hci hj (hv ad)) zup_other
  refine va_putF h1 h2 h5 hin ty0 hty hnm h4 h6 hP.1 hP.2 hS n he hcl j hj (h5 _ (List.mem_cons_of_mem _ hlk)) (fun _ h => h) hfin (c3.trans hin2) hdecl hd9 (hnr ad) (hft ad) (by simpa using hj) hd (fun H1 locs1 hP1 hD1 hS1 => ?_)
  rw [hset] at hP1 hD1
  exact kk p l e R s m args below meth c cells slots Q D Y ad A hC hK H1 locs1 lsA ⟨hP1, hD1⟩ hS1 hl
theorem rl_iald {k n ix : Nat} {i : Int} (hd : decode M.2.1 pc = .ok (.iaload, 1)) (hk : zk k = (10, n)) (hn : ix < N) (hi : zov ix = k) (h0 : 0 ≤ i) (h1 : i < n) (kk : RN M d w N W₀ (pc + 1) ls (zI (W₀ k i) :: st) K) : RN M d w N W₀ pc ls (zI i :: .ref k :: st) K := by
  intro p l e R s m args below meth c cells slots Q D Y ad A hC hK H locs lsA hP hS hl
  obtain ⟨⟨g1, g2, g3, g4, g5⟩, -, -, -, ⟨h6, h7, -⟩, -⟩ := id hC
  have he := zww_at Y ad W₀ hn hi
  rw [zcw_z Y ad W₀ hk (by decide) (by decide), zc_int Y ad W₀ hk] at he
  refine va_iald g1 g2 h6 hP.1 ix 0 he rfl (z_in h0 h1 (zk_len hk)) hd ?_
  rw [z_rd W₀ k h0 h1 (zk_len hk)]
  exact kk p l e R s m args below meth c cells slots Q D Y ad A hC hK H locs lsA hP hS hl
theorem rl_iast {k n ix : Nat} {i v : Int} (hd : decode M.2.1 pc = .ok (.iastore, 1)) (hk : zk k = (10, n)) (hn : ix < N) (hN : N ≤ 129) (hi : zov ix = k) (h0 : 0 ≤ i) (h1 : i < n) (kk : RN M d w N (zup W₀ k i v) (pc + 1) ls st K) : RN M d w N W₀ pc ls (zI v :: zI i :: .ref k :: st) K := by
  intro p l e R s m args below meth c cells slots Q D Y ad A hC hK H locs lsA hP hS hl
  obtain ⟨⟨g1, g2, g3, g4, g5⟩, -, -, -, ⟨h6, h7, -⟩, -⟩ := id hC
  have he := zww_at Y ad W₀ hn hi
  rw [zcw_z Y ad W₀ hk (by decide) (by decide), zc_int Y ad W₀ hk] at he
  have hset := zww_set Y ad W₀ (zup W₀ k i v) hn hN hi _ ((zc_putA Y ad W₀ hk h0 h1 (v := v)).trans (zcw_z Y ad _ hk (by decide) (by decide)).symm) zup_other
  refine va_iast g1 g2 h6 hP.1 hP.2 hS ix 0 he rfl (z_in h0 h1 (zk_len hk)) hd (fun H1 locs1 hP1 hD1 hS1 => ?_)
  rw [hset] at hP1 hD1
  exact kk p l e R s m args below meth c cells slots Q D Y ad A hC hK H1 locs1 lsA ⟨hP1, hD1⟩ hS1 hl
theorem rl_bast {k n ix : Nat} {i v : Int} (hd : decode M.2.1 pc = .ok (.bastore, 1)) (hk : zk k = (11, n)) (hn : ix < N) (hN : N ≤ 129) (hi : zov ix = k) (h0 : 0 ≤ i) (h1 : i < n) (hv0 : -128 ≤ v) (hv1 : v < 128) (kk : RN M d w N (zup W₀ k i v) (pc + 1) ls st K) : RN M d w N W₀ pc ls (zI v :: zI i :: .ref k :: st) K := by
  intro p l e R s m args below meth c cells slots Q D Y ad A hC hK H locs lsA hP hS hl
  obtain ⟨⟨g1, g2, g3, g4, g5⟩, -, -, -, ⟨h6, h7, -⟩, -⟩ := id hC
  have he := zww_at Y ad W₀ hn hi
  rw [zcw_z Y ad W₀ hk (by decide) (by decide), zc_byte Y ad W₀ hk] at he
  have hset := zww_set Y ad W₀ (zup W₀ k i v) hn hN hi _ ((zc_putB Y ad W₀ hk h0 h1 (v := v)).trans (zcw_z Y ad _ hk (by decide) (by decide)).symm) zup_other
  refine va_bast g1 g2 h6 hP.1 hP.2 hS ix 1 he rfl (z_in h0 h1 (zk_len hk)) hd (fun H1 locs1 hP1 hD1 hS1 => ?_)
  rw [z_narB hv0 hv1, hset] at hP1 hD1
  exact kk p l e R s m args below meth c cells slots Q D Y ad A hC hK H1 locs1 lsA ⟨hP1, hD1⟩ hS1 hl
/-- a court goes into a row of courts -/
theorem rl_aast {k n ix kc r : Nat} {i : Int} (hd : decode M.2.1 pc = .ok (.aastore, 1)) (hk : zk k = (13, n)) (hn : ix < N) (hN : N ≤ 129) (hi : zov ix = k) (h0 : 0 ≤ i) (h1 : i < n) (hc : zk r = (0, 0)) (hnc : kc < N) (hic : zov kc = r) (hr : zr k i.toNat = some r) (kk : RN M d w N (zup W₀ k i 1) (pc + 1) ls st K) : RN M d w N W₀ pc ls (.ref r :: zI i :: .ref k :: st) K := by
  intro p l e R s m args below meth c cells slots Q D Y ad A hC hK H locs lsA hP hS hl
  obtain ⟨⟨g1, g2, g3, g4, g5⟩, -, -, -, ⟨h6, h7, -⟩, -⟩ := id hC
  have he := zww_at Y ad W₀ hn hi
  rw [zcw_refs Y ad W₀ hk] at he
  have hv := zww_at Y ad W₀ hnc hic
  rw [zcw_obj Y ad W₀ hc (by decide)] at hv
  refine va_astq (r := (RX0, TX0, 15)) g1 g2 h6 hP.1 hP.2 hS ix 3 kc 0 he rfl hv rfl (z_in h0 h1 (zk_len hk)) hd (fun H1 locs1 hP1 hD1 hS1 => ?_)
  have e9 : (.inl (Y.2.2.2.1, n, .inr (.inr (.inr (.inr (va_up (fun j => if j < n ∧ W₀ k j ≠ 0 then (zr k j).map ad else none) (Int32.ofInt i).toNatClampNeg (some (ad r))))))) : va_E) = zcw Y ad (zup W₀ k i 1) k := by
    rw [zcw_refs Y ad _ hk]
    congr 7
    funext j
    have hn9 := zk_len hk
    rw [z_clamp h0 (by omega)]
    unfold va_up
    by_cases hj : j = i.toNat
    · rw [if_pos hj, show (j : Int) = i by omega, zup_s, if_pos ⟨by omega, by decide⟩, hj, hr]; rfl
    · rw [if_neg hj, zup_i (by omega)]
  have hset := zww_set Y ad W₀ (zup W₀ k i 1) hn hN hi _ e9 zup_other
  rw [hset] at hP1 hD1
  exact kk p l e R s m args below meth c cells slots Q D Y ad A hC hK H1 locs1 lsA ⟨hP1, hD1⟩ hS1 hl
/-- Object's own <init> -/
theorem rl_obj {index k : Nat} (hd : decode M.2.1 pc = .ok (.invokespecial index, 3)) (h1 : Cond.methodLink M.1 index Lib.objectInit ∈ zWs) (h2 : Cond.instanceMethod Lib.objectInit ∈ zWs) (h3 : Cond.code Lib.objectInit { data := #[177] } 1 none ∈ zWs) (hdd : 1 ≤ d) (hst : (st.map fun v => v.category).sum ≤ 8) (kk : RN M d w N W₀ (pc + 3) ls st K) : RN M d w N W₀ pc ls (.ref k :: st) K := by
  intro p l e R s m args below meth c cells slots Q D Y ad A hC hK H locs lsA hP hS hl
  obtain ⟨⟨g1, g2, g3, g4, g5⟩, -, -, -, -, -, c7, c8, -⟩ := id hC
  refine W.objInit g1 g2 g4 (g5 _ (List.mem_cons_of_mem _ h1)) (g5 _ (List.mem_cons_of_mem _ h2)) (g5 _ (List.mem_cons_of_mem _ h3)) rfl (hl.1.trans g3.symm) rfl hd (by omega) (by have h9 := zts_cat ad st; show 2 * 0 + _ + 12 ≤ R.locals; omega) ?_
  exact kk p l e R s m args below meth c cells slots Q D Y ad A hC hK H locs lsA hP hS hl
end ZM
