/-! THE MAKING OF THE SYSTEMS: things come one after another, in a fixed order; a reference not yet set stands as 0 -/
def zOr : List Nat := [96, 0, 1, 2, 3, 4, 5, 6, 7, 8, 9, 10, 11, 12, 13, 14, 15, 97, 98, 99, 100, 101, 102, 103, 104, 105, 106, 107, 108, 109, 16, 17, 18, 19, 20, 21, 22, 23, 24, 25, 26, 27, 28, 29, 30, 31, 32, 33, 34, 35, 36, 37, 38, 39, 40, 41, 42, 43, 44, 45, 46, 47, 48, 49, 50, 51, 52, 53, 54, 55, 56, 57, 58, 59, 60, 61, 62, 63, 64, 65, 66, 67, 68, 69, 70, 71, 72, 73, 74, 75, 76, 77, 78, 79, 110, 80, 81, 82, 83, 84, 85, 86, 87, 88, 89, 90, 91, 92, 93, 94, 95, 111, 112, 113, 114, 115, 116, 117, 118, 119, 120, 121, 122, 123, 124, 125, 126, 127, 128]
def zov (j : Nat) : Nat := zOr.getD j 0
theorem zov_inj : ∀ i, i < 129 → ∀ j, j < 129 → zov i = zov j → i = j := by decide +kernel
def zfw (ad : Nat → Nat) (W : zWd) (k j : Nat) : Value := match zr k j with
  | some r => if W k j = 0 then .null else .ref (ad r)
  | none => .int (Int32.ofInt (W k j))
def zcw (Y : zY) (ad : Nat → Nat) (W : zWd) (k : Nat) : va_E :=
  if (zk k).1 = 13 then .inl (Y.2.2.2.1, (zk k).2, .inr (.inr (.inr (.inr (fun j => if j < (zk k).2 ∧ W k j ≠ 0 then (zr k j).map ad else none)))))
  else if (zk k).1 < 8 then .inr ((zk k).1, (List.range (znf (zk k).1)).map (zfw ad W k)) else zc Y ad W k
def zww (Y : zY) (ad : Nat → Nat) (W : zWd) (N : Nat) : va_W := (List.range N).map (fun j => (ad (zov j), zcw Y ad W (zov j)))
theorem zww_at (Y : zY) (ad : Nat → Nat) (W : zWd) {N n k : Nat} (hn : n < N) (hk : zov n = k) : (zww Y ad W N)[n]? = some (ad k, zcw Y ad W k) := by
  simp [zww, hn, hk]
theorem zcw_cg (Y : zY) (ad : Nat → Nat) {W W' : zWd} {k : Nat} (h : W' k = W k) : zcw Y ad W' k = zcw Y ad W k := by
  unfold zcw zc
  have e1 : zfw ad W' k = zfw ad W k := by funext j; unfold zfw; rw [h]
  have e2 : zfv ad W' k = zfv ad W k := by funext j; unfold zfv; rw [h]
  rw [e1, e2, h]
theorem zww_set (Y : zY) (ad : Nat → Nat) (W W' : zWd) {N n k : Nat} (hn : n < N) (hN : N ≤ 129) (hk : zov n = k) (e : va_E) (he : e = zcw Y ad W' k) (ho : ∀ k', k' ≠ k → W' k' = W k') : (zww Y ad W N).set n (ad k, e) = zww Y ad W' N := by
  subst he
  apply List.ext_getElem?
  intro j
  rw [List.getElem?_set]
  by_cases hj : n = j
  · subst hj
    simp [zww, hn, hk]
  · rw [if_neg hj]
    simp only [zww, List.getElem?_map]
    by_cases h2 : j < N
    · rw [List.getElem?_range h2]
      simp only [Option.map_some]
      rw [zcw_cg Y ad (ho (zov j) (fun z => hj (zov_inj n (by omega) j (by omega) (hk.trans z.symm))))]
    · rw [List.getElem?_eq_none (by simp; omega)]
      rfl
/-- how many places of a thing may hold references -/
def zrl (k : Nat) : Nat := if (zk k).1 = 13 then (zk k).2 else znf (zk k).1
def zAgr (N : Nat) (ad ad' : Nat → Nat) : Prop := (∀ j : Nat, j < N → ad' (zov j) = ad (zov j)) ∧ ∀ k : Nat, 129 ≤ k → ad' k = ad k
theorem zov_lt : ∀ j, j < 129 → zov j < 129 := by decide +kernel
theorem zAgr.rf {N : Nat} {ad : Nat → Nat} : zAgr N ad ad := ⟨fun _ _ => rfl, fun _ _ => rfl⟩
theorem zAgr.tr {N N' : Nat} {ad ad' ad'' : Nat → Nat} (h : zAgr N ad ad') (h2 : zAgr N' ad' ad'') (hn : N ≤ N') : zAgr N ad ad'' := ⟨fun j hj => (h2.1 j (by omega)).trans (h.1 j hj), fun k hk => (h2.2 k hk).trans (h.2 k hk)⟩
def zad (ad : Nat → Nat) (N q : Nat) : Nat → Nat := fun x => if x = zov N then q else ad x
theorem zad_agr {ad : Nat → Nat} {N q : Nat} (hN : N < 129) : zAgr N ad (zad ad N q) := ⟨fun j hj => by
  unfold zad
  rw [if_neg (fun z => by have := zov_inj j (by omega) N hN z; omega)], fun k hk => by
  unfold zad
  rw [if_neg (fun z => by have := zov_lt N hN; omega)]⟩
theorem zk_kinds (k : Nat) : (zk k).1 = 10 ∨ (zk k).1 = 11 ∨ (zk k).1 = 12 ∨ (zk k).1 = 13 ∨ (zk k).1 = 14 ∨ (zk k).1 < 8 := by
  rcases Nat.lt_or_ge k 129 with q | q
  · exact (show ∀ k, k < 129 → ((zk k).1 = 10 ∨ (zk k).1 = 11 ∨ (zk k).1 = 12 ∨ (zk k).1 = 13 ∨ (zk k).1 = 14 ∨ (zk k).1 < 8) by decide +kernel) k q
  · rw [zk_ge q]; omega
theorem zcw_ad (Y : zY) {ad : Nat → Nat} {W : zWd} {k N q : Nat} (hz : ∀ i : Nat, i < zrl k → zr k i = some (zov N) → W k i = 0) (h8 : (zk k).1 ≠ 13 → ¬ (zk k).1 < 8 → True) : zcw Y (zad ad N q) W k = zcw Y ad W k := by
  unfold zcw
  by_cases h1 : (zk k).1 = 13
  · rw [if_pos h1, if_pos h1]
    congr 7
    funext j
    by_cases h2 : j < (zk k).2 ∧ W k j ≠ 0
    · rw [if_pos h2, if_pos h2]
      cases hr : zr k j with
      | none => rfl
      | some r =>
        have hne : r ≠ zov N := fun z => h2.2 (hz j (by unfold zrl; rw [if_pos h1]; exact h2.1) (by rw [hr, z]))
        show some (zad ad N q r) = some (ad r)
        unfold zad; rw [if_neg hne]
    · rw [if_neg h2, if_neg h2]
  · rw [if_neg h1, if_neg h1]
    by_cases h2 : (zk k).1 < 8
    · rw [if_pos h2, if_pos h2]
      congr 2
      refine List.map_congr_left (fun j hj => ?_)
      have hj := List.mem_range.mp hj
      unfold zfw
      cases hr : zr k j with
      | none => rfl
      | some r =>
        by_cases h3 : W k j = 0
        · show (if W k j = 0 then _ else _) = (if W k j = 0 then _ else _)
          rw [if_pos h3, if_pos h3]
        · have hne : r ≠ zov N := fun z => h3 (hz j (by unfold zrl; rw [if_neg h1]; exact hj) (by rw [hr, z]))
          show (if W k j = 0 then _ else Value.ref (zad ad N q r)) = (if W k j = 0 then _ else Value.ref (ad r))
          unfold zad; rw [if_neg hne]
    · rw [if_neg h2, if_neg h2]
      unfold zc
      rcases zk_kinds k with h | h | h | h | h | h
      · rw [if_pos h, if_pos h]
      · rw [if_neg (by omega), if_pos h, if_neg (by omega), if_pos h]
      · rw [if_neg (by omega), if_neg (by omega), if_pos h, if_neg (by omega), if_neg (by omega), if_pos h]
      · exact absurd h h1
      · rw [if_neg (by omega), if_neg (by omega), if_neg (by omega), if_neg (by omega), if_pos h, if_neg (by omega), if_neg (by omega), if_neg (by omega), if_neg (by omega), if_pos h]
      · exact absurd h h2
/-- a thing as it's born -/
def znew (W : zWd) (k : Nat) : zWd := fun k' i => if k' = k then 0 else W k' i
theorem znew_o {W : zWd} {k k' : Nat} (h : k' ≠ k) : znew W k k' = W k' := by funext i; unfold znew; rw [if_neg h]
theorem znew_s {W : zWd} {k : Nat} {i : Int} : znew W k k i = 0 := by unfold znew; rw [if_pos rfl]
theorem zww_push (Y : zY) {ad : Nat → Nat} {W : zWd} {N q : Nat} (hN : N < 129) (hz : ∀ j : Nat, j < N → ∀ i : Nat, i < zrl (zov j) → zr (zov j) i = some (zov N) → W (zov j) i = 0) (e : va_E) (he : e = zcw Y (zad ad N q) (znew W (zov N)) (zov N)) : zww Y ad W N ++ [(q, e)] = zww Y (zad ad N q) (znew W (zov N)) (N + 1) := by
  unfold zww
  rw [List.range_succ, List.map_append]
  congr 1
  · refine List.map_congr_left (fun j hj => ?_)
    have hj := List.mem_range.mp hj
    have hne : zov j ≠ zov N := fun z => by have := zov_inj j (by omega) N hN z; omega
    rw [(zad_agr hN).1 j hj, zcw_cg Y _ (znew_o hne), zcw_ad Y (hz j hj) (fun _ _ => trivial)]
  · show [(q, e)] = [(zad ad N q (zov N), zcw Y (zad ad N q) (znew W (zov N)) (zov N))]
    rw [← he]
    unfold zad; rw [if_pos rfl]
def zSt (D : va_G) (Y : zY) (A : Nat → Prop) (N : Nat) (ad : Nat → Nat) (W : zWd) (H : Heap) : Prop := va_P D vwCl (zww Y ad W N) H ∧ va_D A (zww Y ad W N)
def zEL (D : va_G) (Y : zY) (U : State) : Prop := va_K D vwCl (ztys Y) U ∧ (∀ w ∈ zNst, va_Nw w U) ∧ va_AO "HopscotchCourt$Court" U
theorem zEL.move {D : va_G} {Y : zY} {s U : State} (hW : s.WarmedH U.vm) (h : zEL D Y s) : zEL D Y U := ⟨va_K.moved hW.alike h.1, fun w hw => zNst_warm hw hW (h.2.1 w hw), va_AO.moved hW.alike h.2.2⟩
def zCL (M : zM) (d w : Nat) (p : Program) (R : Room) (s : State) (m : MethodId) (args : Array Value) (meth : Method) (c : Code) (cells slots : Nat) (D : va_G) (Y : zY) (A : Nat → Prop) : Prop :=
  CallFix p m c M.2.1 M.2.2.1 s args (zwM M) M.1 ∧ meth.locks = false ∧ meth.name = M.2.2.2.1.name ∧ meth.sig.returnType = M.2.2.2.2 ∧ zEL D Y s ∧ (∀ q : Nat, s.heap.size ≤ q → A q) ∧ d ≤ R.frames ∧ 40 * d ≤ R.locals ∧ cells + w ≤ R.cells ∧ slots + 1300 * w ≤ R.slots
abbrev zKL : Type := Nat → Nat → Nat → List Value → List Value → zWd → Prop
/-- from here, with N things made and w more that may be, the machine comes to a point of K -/
def RN (M : zM) (d w N : Nat) (W₀ : zWd) (pc : Nat) (ls st : List Value) (K : zKL) : Prop :=
  ∀ (p : Program) (l : Launch) (e : Env) (R : Room) (s : State) (m : MethodId) (args : Array Value) (below : List Frame) (meth : Method) (c : Code) (cells slots : Nat) (Q : State → Prop) (D : va_G) (Y : zY) (ad : Nat → Nat) (A : Nat → Prop),
    zCL M d w p R s m args meth c cells slots D Y A →
    (∀ (w' N' : Nat) (ad' : Nat → Nat) (pc' : Nat) (ls' st' : List Value) (W' : zWd) (H' : Heap) (locs' : List Loc) (lsA' : Array Slot) (cells' slots' : Nat), zAgr N ad ad' → N ≤ N' → K w' N' pc' ls' st' W' → zSt D Y A N' ad' W' H' → va_S A s.heap H' locs' → lv_has lsA' M.2.2.1 (zl ad' 0 ls') → cells' + w' ≤ cells + w → slots' + 1300 * w' ≤ slots + 1300 * w → W p l e R s m args below meth c H' locs' cells' slots' Q (F0 m pc' lsA' (zts ad' st'))) →
    ∀ (H : Heap) (locs : List Loc) (lsA : Array Slot), zSt D Y A N ad W₀ H → va_S A s.heap H locs → lv_has lsA M.2.2.1 (zl ad 0 ls) → W p l e R s m args below meth c H locs cells slots Q (F0 m pc lsA (zts ad st))
theorem rl_base {M : zM} {d w N : Nat} {W₀ : zWd} {pc : Nat} {ls st : List Value} {K : zKL} (h : K w N pc ls st W₀) : RN M d w N W₀ pc ls st K := by
  intro p l e R s m args below meth c cells slots Q D Y ad A hC hK H locs lsA hP hS hl
  exact hK w N ad pc ls st W₀ H locs lsA cells slots zAgr.rf (Nat.le_refl _) h hP hS hl (Nat.le_refl _) (Nat.le_refl _)
/-- one walk behind another -/
theorem rl_seq {M : zM} {d w N : Nat} {W₀ : zWd} {pc : Nat} {ls st : List Value} {K K' : zKL} (h : RN M d w N W₀ pc ls st K') (hk : ∀ w' N' pc' ls' st' W', K' w' N' pc' ls' st' W' → RN M d w' N' W' pc' ls' st' K) : RN M d w N W₀ pc ls st K := by
  intro p l e R s m args below meth c cells slots Q D Y ad A hC hK H locs lsA hP hS hl
  obtain ⟨h1, h2, h3, h4, h5, h6, h7, h8, h9, h10⟩ := id hC
  refine h p l e R s m args below meth c cells slots Q D Y ad A hC (fun w' N' ad' pc' ls' st' W' H' locs' lsA' cells' slots' ha hn k hP' hS' hl' hc' hs' => ?_) H locs lsA hP hS hl
  exact hk w' N' pc' ls' st' W' k p l e R s m args below meth c cells' slots' Q D Y ad' A ⟨h1, h2, h3, h4, h5, h6, h7, h8, by omega, by omega⟩ (fun w2 N2 ad2 pc2 ls2 st2 W2 H2 locs2 lsA2 cells2 slots2 ha2 hn2 k2 hP2 hS2 hl2 hc2 hs2 => hK w2 N2 ad2 pc2 ls2 st2 W2 H2 locs2 lsA2 cells2 slots2 (ha.tr ha2 hn) (by omega) k2 hP2 hS2 hl2 (by omega) (by omega)) H' locs' lsA' hP' hS' hl'
section ZL
variable {M : zM} {d w N : Nat} {W₀ : zWd} {pc : Nat} {ls st : List Value} {K : zKL}
theorem rl_eqW {W₁ : zWd} (e : W₀ = W₁) (k : RN M d w N W₁ pc ls st K) : RN M d w N W₀ pc ls st K := e ▸ k
theorem rl_iconst {n : Int} (hd : decode M.2.1 pc = .ok (.iconst n, 1)) (k : RN M d w N W₀ (pc + 1) ls (zI n :: st) K) : RN M d w N W₀ pc ls (st) K := by
  intro p l e R s m args below meth c cells slots Q D Y ad A hC hK H locs lsA hP hS hl
  exact lv_iconst hC.1.1 hC.1.2.1 hd rfl (k p l e R s m args below meth c cells slots Q D Y ad A hC hK H locs lsA hP hS hl)
theorem rl_bipush {n : Int} (hd : decode M.2.1 pc = .ok (.bipush n, 2)) (k : RN M d w N W₀ (pc + 2) ls (zI n :: st) K) (hv : (Int8.ofInt n).toInt32 = Int32.ofInt n := by decide) : RN M d w N W₀ pc ls st K := by
  intro p l e R s m args below meth c cells slots Q D Y ad A hC hK H locs lsA hP hS hl
  exact lv_bipush hC.1.1 hC.1.2.1 hd hv (k p l e R s m args below meth c cells slots Q D Y ad A hC hK H locs lsA hP hS hl)
theorem rl_sipush {n : Int} (hd : decode M.2.1 pc = .ok (.sipush n, 3)) (k : RN M d w N W₀ (pc + 3) ls (zI n :: st) K) (hv : (Int16.ofInt n).toInt32 = Int32.ofInt n := by decide) : RN M d w N W₀ pc ls st K := by
  intro p l e R s m args below meth c cells slots Q D Y ad A hC hK H locs lsA hP hS hl
  exact lv_sipush hC.1.1 hC.1.2.1 hd hv (k p l e R s m args below meth c cells slots Q D Y ad A hC hK H locs lsA hP hS hl)
theorem rl_iload_n {k : Fin 4} {z : Int} (hd : decode M.2.1 pc = .ok (.iload_n k, 1)) (hg : zg ls k = zI z) (kk : RN M d w N W₀ (pc + 1) ls (zI z :: st) K) : RN M d w N W₀ pc ls st K := by
  intro p l e R s m args below meth c cells slots Q D Y ad A hC hK H locs lsA hP hS hl
  exact lv_iload_n hC.1.1 hC.1.2.1 hd rfl (zl_at hl hg) (kk p l e R s m args below meth c cells slots Q D Y ad A hC hK H locs lsA hP hS hl)
theorem rl_aload_n {k : Fin 4} {r : Nat} (hd : decode M.2.1 pc = .ok (.aload_n k, 1)) (hg : zg ls k = .ref r) (kk : RN M d w N W₀ (pc + 1) ls (.ref r :: st) K) : RN M d w N W₀ pc ls st K := by
  intro p l e R s m args below meth c cells slots Q D Y ad A hC hK H locs lsA hP hS hl
  exact lv_aload_n hC.1.1 hC.1.2.1 hd rfl (zl_atR hl hg) (kk p l e R s m args below meth c cells slots Q D Y ad A hC hK H locs lsA hP hS hl)
theorem rl_istore_n {k : Fin 4} {z : Int} (hd : decode M.2.1 pc = .ok (.istore_n k, 1)) (hn : (k : Nat) < M.2.2.1) (kk : RN M d w N W₀ (pc + 1) (zs ls k (zI z)) st K) : RN M d w N W₀ pc ls (zI z :: st) K := by
  intro p l e R s m args below meth c cells slots Q D Y ad A hC hK H locs lsA hP hS hl
  exact lv_istore_n hC.1.1 hC.1.2.1 hd rfl hl hn rfl (fun ls' hl' => kk p l e R s m args below meth c cells slots Q D Y ad A hC hK H locs ls' hP hS (zl_put (x := zI z) hl'))
theorem rl_dup_i {z : Int} (hd : decode M.2.1 pc = .ok (.dup, 1)) (k : RN M d w N W₀ (pc + 1) ls (zI z :: zI z :: st) K) : RN M d w N W₀ pc ls (zI z :: st) K := by
  intro p l e R s m args below meth c cells slots Q D Y ad A hC hK H locs lsA hP hS hl
  exact lv_dup hC.1.1 hC.1.2.1 hd rfl (k p l e R s m args below meth c cells slots Q D Y ad A hC hK H locs lsA hP hS hl)
theorem rl_dup_r {r : Nat} (hd : decode M.2.1 pc = .ok (.dup, 1)) (k : RN M d w N W₀ (pc + 1) ls (.ref r :: .ref r :: st) K) : RN M d w N W₀ pc ls (.ref r :: st) K := by
  intro p l e R s m args below meth c cells slots Q D Y ad A hC hK H locs lsA hP hS hl
  exact lv_dup hC.1.1 hC.1.2.1 hd rfl (k p l e R s m args below meth c cells slots Q D Y ad A hC hK H locs lsA hP hS hl)
theorem rl_dup2 {r : Nat} {z : Int} (hd : decode M.2.1 pc = .ok (.dup2, 1)) (k : RN M d w N W₀ (pc + 1) ls (zI z :: .ref r :: zI z :: .ref r :: st) K) : RN M d w N W₀ pc ls (zI z :: .ref r :: st) K := by
  intro p l e R s m args below meth c cells slots Q D Y ad A hC hK H locs lsA hP hS hl
  exact lv_dup2_11 hC.1.1 hC.1.2.1 hd rfl rfl (k p l e R s m args below meth c cells slots Q D Y ad A hC hK H locs lsA hP hS hl)
theorem rl_iadd {a b : Int} (hd : decode M.2.1 pc = .ok (.iadd, 1)) (k : RN M d w N W₀ (pc + 1) ls (zI (a + b) :: st) K) : RN M d w N W₀ pc ls (zI b :: zI a :: st) K := by
  intro p l e R s m args below meth c cells slots Q D Y ad A hC hK H locs lsA hP hS hl
  have h9 := k p l e R s m args below meth c cells slots Q D Y ad A hC hK H locs lsA hP hS hl
  unfold zI at h9
  rw [Int32.ofInt_add] at h9
  exact lv_iadd hC.1.1 hC.1.2.1 hd h9
theorem rl_isub {a b : Int} (hd : decode M.2.1 pc = .ok (.isub, 1)) (k : RN M d w N W₀ (pc + 1) ls (zI (a - b) :: st) K) : RN M d w N W₀ pc ls (zI b :: zI a :: st) K := by
  intro p l e R s m args below meth c cells slots Q D Y ad A hC hK H locs lsA hP hS hl
  have h9 := k p l e R s m args below meth c cells slots Q D Y ad A hC hK H locs lsA hP hS hl
  unfold zI at h9
  rw [Int32.ofInt_sub] at h9
  exact lv_isub hC.1.1 hC.1.2.1 hd h9
theorem rl_imul {a b : Int} (hd : decode M.2.1 pc = .ok (.imul, 1)) (k : RN M d w N W₀ (pc + 1) ls (zI (a * b) :: st) K) : RN M d w N W₀ pc ls (zI b :: zI a :: st) K := by
  intro p l e R s m args below meth c cells slots Q D Y ad A hC hK H locs lsA hP hS hl
  have h9 := k p l e R s m args below meth c cells slots Q D Y ad A hC hK H locs lsA hP hS hl
  unfold zI at h9
  rw [Int32.ofInt_mul] at h9
  exact lv_imul hC.1.1 hC.1.2.1 hd h9
theorem rl_iinc {i : Nat} {n z : Int} (hd : decode M.2.1 pc = .ok (.iinc i n, 3)) (hg : zg ls i = zI z) (hn : i < M.2.2.1) (kk : RN M d w N W₀ (pc + 3) (zs ls i (zI (z + n))) st K) : RN M d w N W₀ pc ls st K := by
  intro p l e R s m args below meth c cells slots Q D Y ad A hC hK H locs lsA hP hS hl
  have h1 := zl_get ad ls 0 i _ hg (Or.inl ⟨_, rfl⟩)
  rw [Nat.zero_add] at h1
  obtain ⟨k9, h2⟩ := List.mem_iff_getElem?.mp h1
  exact lv_iinc (v := Int32.ofInt (z + n)) hC.1.1 hC.1.2.1 hd hl h2 (by rw [Int32.ofInt_add]) hn rfl (fun ls' hl' => kk p l e R s m args below meth c cells slots Q D Y ad A hC hK H locs ls' hP hS (zl_put (x := zI (z + n)) hl'))
theorem rl_goto {off : Int} {tgt : Nat} (hd : decode M.2.1 pc = .ok (.goto off, 3)) (ht : (pc : Int) + off = (tgt : Int)) (k : RN M d w N W₀ tgt ls st K) : RN M d w N W₀ pc ls st K := by
  intro p l e R s m args below meth c cells slots Q D Y ad A hC hK H locs lsA hP hS hl
  exact lv_goto hC.1.1 hC.1.2.1 hd ht (k p l e R s m args below meth c cells slots Q D Y ad A hC hK H locs lsA hP hS hl)
theorem rl_icmp_lt {a b : Int} {off : Int} {tgt : Nat} (hd : decode M.2.1 pc = .ok (.if_icmp .lt off, 3)) (ht : (pc : Int) + off = (tgt : Int)) (ha : zR a) (hb : zR b) (kt : a < b → RN M d w N W₀ tgt ls st K) (kf : b ≤ a → RN M d w N W₀ (pc + 3) ls st K) : RN M d w N W₀ pc ls (zI b :: zI a :: st) K := by
  intro p l e R s m args below meth c cells slots Q D Y ad A hC hK H locs lsA hP hS hl
  exact lv_icmp_lt hC.1.1 hC.1.2.1 hd ht (fun h => kt ((zR_lt ha hb).mp h) p l e R s m args below meth c cells slots Q D Y ad A hC hK H locs lsA hP hS hl) (fun h => kf (Int.not_lt.mp (fun q => h ((zR_lt ha hb).mpr q))) p l e R s m args below meth c cells slots Q D Y ad A hC hK H locs lsA hP hS hl)
theorem rl_icmp_gt {a b : Int} {off : Int} {tgt : Nat} (hd : decode M.2.1 pc = .ok (.if_icmp .gt off, 3)) (ht : (pc : Int) + off = (tgt : Int)) (ha : zR a) (hb : zR b) (kt : b < a → RN M d w N W₀ tgt ls st K) (kf : a ≤ b → RN M d w N W₀ (pc + 3) ls st K) : RN M d w N W₀ pc ls (zI b :: zI a :: st) K := by
  intro p l e R s m args below meth c cells slots Q D Y ad A hC hK H locs lsA hP hS hl
  exact lv_icmp_gt hC.1.1 hC.1.2.1 hd ht (fun h => kt ((zR_lt hb ha).mp h) p l e R s m args below meth c cells slots Q D Y ad A hC hK H locs lsA hP hS hl) (fun h => kf (Int.not_lt.mp (fun q => h ((zR_lt hb ha).mpr q))) p l e R s m args below meth c cells slots Q D Y ad A hC hK H locs lsA hP hS hl)
theorem rl_icmp_ge {a b : Int} {off : Int} {tgt : Nat} (hd : decode M.2.1 pc = .ok (.if_icmp .ge off, 3)) (ht : (pc : Int) + off = (tgt : Int)) (ha : zR a) (hb : zR b) (kt : b ≤ a → RN M d w N W₀ tgt ls st K) (kf : a < b → RN M d w N W₀ (pc + 3) ls st K) : RN M d w N W₀ pc ls (zI b :: zI a :: st) K := by
  intro p l e R s m args below meth c cells slots Q D Y ad A hC hK H locs lsA hP hS hl
  exact lv_icmp_ge hC.1.1 hC.1.2.1 hd ht (fun h => kt ((zR_le hb ha).mp h) p l e R s m args below meth c cells slots Q D Y ad A hC hK H locs lsA hP hS hl) (fun h => kf (Int.not_le.mp (fun q => h ((zR_le hb ha).mpr q))) p l e R s m args below meth c cells slots Q D Y ad A hC hK H locs lsA hP hS hl)
theorem rl_icmp_le {a b : Int} {off : Int} {tgt : Nat} (hd : decode M.2.1 pc = .ok (.if_icmp .le off, 3)) (ht : (pc : Int) + off = (tgt : Int)) (ha : zR a) (hb : zR b) (kt : a ≤ b → RN M d w N W₀ tgt ls st K) (kf : b < a → RN M d w N W₀ (pc + 3) ls st K) : RN M d w N W₀ pc ls (zI b :: zI a :: st) K := by
  intro p l e R s m args below meth c cells slots Q D Y ad A hC hK H locs lsA hP hS hl
  exact lv_icmp_le hC.1.1 hC.1.2.1 hd ht (fun h => kt ((zR_le ha hb).mp h) p l e R s m args below meth c cells slots Q D Y ad A hC hK H locs lsA hP hS hl) (fun h => kf (Int.not_le.mp (fun q => h ((zR_le ha hb).mpr q))) p l e R s m args below meth c cells slots Q D Y ad A hC hK H locs lsA hP hS hl)
theorem rl_if_lt {a : Int} {off : Int} {tgt : Nat} (hd : decode M.2.1 pc = .ok (.ifCond .lt off, 3)) (ht : (pc : Int) + off = (tgt : Int)) (ha : zR a) (kt : a < 0 → RN M d w N W₀ tgt ls st K) (kf : 0 ≤ a → RN M d w N W₀ (pc + 3) ls st K) : RN M d w N W₀ pc ls (zI a :: st) K := by
  intro p l e R s m args below meth c cells slots Q D Y ad A hC hK H locs lsA hP hS hl
  have hb : zR 0 := zR_zero
  exact lv_if_lt hC.1.1 hC.1.2.1 hd ht (fun h => kt ((zR_lt ha hb).mp h) p l e R s m args below meth c cells slots Q D Y ad A hC hK H locs lsA hP hS hl) (fun h => kf (Int.not_lt.mp (fun q => h ((zR_lt ha hb).mpr q))) p l e R s m args below meth c cells slots Q D Y ad A hC hK H locs lsA hP hS hl)
theorem rl_i2b {a : Int} (hd : decode M.2.1 pc = .ok (.i2b, 1)) (k : RN M d w N W₀ (pc + 1) ls (zI (a.bmod 256) :: st) K) : RN M d w N W₀ pc ls (zI a :: st) K := by
  intro p l e R s m args below meth c cells slots Q D Y ad A hC hK H locs lsA hP hS hl
  exact lv_i2b hC.1.1 hC.1.2.1 hd (z_i2b a) (k p l e R s m args below meth c cells slots Q D Y ad A hC hK H locs lsA hP hS hl)
end ZL
