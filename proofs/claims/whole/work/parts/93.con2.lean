/-- whose field, or place, leads to a thing: the owner's number in the order, and which -/
def zprT : List (Nat × Nat) := [(0, 0), (1, 8), (1, 9), (1, 10), (1, 11), (1, 12), (1, 13), (1, 14), (0, 1), (9, 8), (9, 9), (9, 10), (9, 11), (9, 12), (9, 13), (9, 14), (29, 0), (30, 8), (30, 9), (30, 10), (30, 11), (30, 12), (30, 13), (30, 14), (29, 1), (38, 8), (38, 9), (38, 10), (38, 11), (38, 12), (38, 13), (38, 14), (29, 2), (46, 8), (46, 9), (46, 10), (46, 11), (46, 12), (46, 13), (46, 14), (29, 3), (54, 8), (54, 9), (54, 10), (54, 11), (54, 12), (54, 13), (54, 14), (29, 4), (62, 8), (62, 9), (62, 10), (62, 11), (62, 12), (62, 13), (62, 14), (29, 5), (70, 8), (70, 9), (70, 10), (70, 11), (70, 12), (70, 13), (70, 14), (29, 6), (78, 8), (78, 9), (78, 10), (78, 11), (78, 12), (78, 13), (78, 14), (29, 7), (86, 8), (86, 9), (86, 10), (86, 11), (86, 12), (86, 13), (86, 14), (94, 0), (95, 8), (95, 9), (95, 10), (95, 11), (95, 12), (95, 13), (95, 14), (94, 1), (103, 8), (103, 9), (103, 10), (103, 11), (103, 12), (103, 13), (103, 14), (999, 0), (0, 2), (17, 0), (18, 3), (18, 8), (18, 9), (18, 10), (17, 1), (23, 3), (23, 8), (23, 9), (23, 10), (0, 3), (28, 0), (0, 4), (0, 5), (0, 6), (112, 0), (0, 7), (114, 0), (999, 0), (116, 0), (116, 1), (116, 2), (116, 3), (116, 4), (116, 5), (116, 8), (116, 17), (116, 18), (116, 19), (116, 25), (999, 0)]
def zpr (k : Nat) : Nat × Nat := zprT.getD k (999, 0)
theorem zpr_all : ∀ j, j < 129 → ∀ i, i < 28 → i < zrl (zov j) → (match zr (zov j) i with | none => true | some r => decide (zpr r = (j, i))) = true := by decide +kernel
theorem zrl_le : ∀ j, j < 129 → zrl (zov j) ≤ 28 := by decide +kernel
theorem zpr_one {j i r : Nat} (hj : j < 129) (hi : i < zrl (zov j)) (h : zr (zov j) i = some r) : zpr r = (j, i) := by
  have h9 := zpr_all j hj i (by have := zrl_le j hj; omega) hi
  rw [h] at h9
  exact of_decide_eq_true h9
def zLv (N : Nat) (l : List Value) : Prop := ∀ k : Nat, Value.ref k ∈ l → (∃ j : Nat, j < N ∧ zov j = k) ∨ 129 ≤ k
theorem zAgr.at {N : Nat} {ad ad' : Nat → Nat} (ha : zAgr N ad ad') {k : Nat} (h : (∃ j : Nat, j < N ∧ zov j = k) ∨ 129 ≤ k) : ad' k = ad k := by
  rcases h with ⟨j, hj, rfl⟩ | h
  · exact ha.1 j hj
  · exact ha.2 k h
theorem zts_agr {N : Nat} {ad ad' : Nat → Nat} (ha : zAgr N ad ad') : ∀ l : List Value, zLv N l → zts ad' l = zts ad l := by
  intro l
  induction l with
  | nil => intro _; rfl
  | cons v t ih =>
    intro h
    have h1 : zt ad' v = zt ad v := by
      cases v with
      | ref k =>
        show Value.ref (ad' k) = Value.ref (ad k)
        rw [ha.at (h k List.mem_cons_self)]
      | _ => rfl
    show zt ad' v :: zts ad' t = zt ad v :: zts ad t
    rw [h1, ih (fun k hk => h k (List.mem_cons_of_mem _ hk))]
theorem zl_agr {N : Nat} {ad ad' : Nat → Nat} (ha : zAgr N ad ad') : ∀ (l : List Value) (i : Nat), zLv N l → zl ad' i l = zl ad i l := by
  intro l
  induction l with
  | nil => intro i _; rfl
  | cons v t ih =>
    intro i h
    have h2 := ih (i + 1) (fun k hk => h k (List.mem_cons_of_mem _ hk))
    cases v with
    | ref k =>
      show (i, Value.ref (ad' k)) :: zl ad' (i + 1) t = (i, Value.ref (ad k)) :: zl ad (i + 1) t
      rw [ha.at (h k List.mem_cons_self), h2]
    | int x => show (i, Value.int x) :: zl ad' (i + 1) t = (i, Value.int x) :: zl ad (i + 1) t; rw [h2]
    | _ => exact h2
/-- behind the making of a thing -/
theorem rl_made {M : zM} {d w N : Nat} {W₀ : zWd} {pc' : Nat} {ls st : List Value} {K : zKL} {p : Program} {l : Launch} {e : Env} {R : Room} {s : State} {m : MethodId} {args : Array Value} {below : List Frame} {meth : Method} {c : Code} {cells slots n : Nat} {Q : State → Prop} {D : va_G} {Y : zY} {ad : Nat → Nat} {A : Nat → Prop} {H1 : Heap} {locs1 : List Loc} {lsA : Array Slot} {q : Nat} {en : va_E} (hN : N < 129) (hz : W₀ (zov (zpr (zov N)).1) ((zpr (zov N)).2 : Nat) = 0 ∨ N ≤ (zpr (zov N)).1) (hls : zLv N ls) (hst : zLv N st) (hn : n ≤ 1300)
    (kk : RN M d w (N + 1) (znew W₀ (zov N)) pc' ls (.ref (zov N) :: st) K) (hC : zCL M d (w + 1) p R s m args meth c cells slots D Y A)
    (hK : ∀ (w' N' : Nat) (ad' : Nat → Nat) (pc' : Nat) (ls' st' : List Value) (W' : zWd) (H' : Heap) (locs' : List Loc) (lsA' : Array Slot) (cells' slots' : Nat), zAgr N ad ad' → N ≤ N' → K w' N' pc' ls' st' W' → zSt D Y A N' ad' W' H' → va_S A s.heap H' locs' → lv_has lsA' M.2.2.1 (zl ad' 0 ls') → cells' + w' ≤ cells + (w + 1) → slots' + 1300 * w' ≤ slots + 1300 * (w + 1) → W p l e R s m args below meth c H' locs' cells' slots' Q (F0 m pc' lsA' (zts ad' st')))
    (he : en = zcw Y (zad ad N q) (znew W₀ (zov N)) (zov N)) (hP1 : va_P D vwCl (zww Y ad W₀ N ++ [(q, en)]) H1) (hD1 : va_D A (zww Y ad W₀ N ++ [(q, en)])) (hS1 : va_S A s.heap H1 locs1) (hl : lv_has lsA M.2.2.1 (zl ad 0 ls)) :
    W p l e R s m args below meth c H1 locs1 (cells + 1) (slots + n) Q (F0 m pc' lsA (.ref q :: zts ad st)) := by
  have hz9 : ∀ j : Nat, j < N → ∀ i : Nat, i < zrl (zov j) → zr (zov j) i = some (zov N) → W₀ (zov j) i = 0 := by
    intro j hj i hi hr
    have h9 := zpr_one (by omega) hi hr
    rw [h9] at hz
    rcases hz with hz | hz
    · exact hz
    · exact absurd hz (by show ¬ N ≤ j; omega)
  have hpush := zww_push Y hN hz9 en he
  rw [hpush] at hP1 hD1
  obtain ⟨c1, c2, c3, c4, c5, c6, c7, c8, c9, c10⟩ := id hC
  have ha := zad_agr (ad := ad) (q := q) hN
  refine W.widen (k := cells + 1) (n := slots + 1300) (Nat.le_refl _) (by omega) ?_
  have h9 := kk p l e R s m args below meth c (cells + 1) (slots + 1300) Q D Y (zad ad N q) A ⟨c1, c2, c3, c4, c5, c6, c7, c8, by omega, by omega⟩ (fun w' N' ad' pc' ls' st' W' H' locs' lsA' cells' slots' g1 g2 g3 g4 g5 g6 g7 g8 => hK w' N' ad' pc' ls' st' W' H' locs' lsA' cells' slots' (ha.tr g1 (by omega)) (by omega) g3 g4 g5 g6 (by omega) (by omega)) H1 locs1 lsA ⟨hP1, hD1⟩ hS1 (by rw [zl_agr ha ls 0 hls]; exact hl)
  have e9 : zts (zad ad N q) (.ref (zov N) :: st) = .ref q :: zts ad st := by
    show Value.ref (zad ad N q (zov N)) :: zts (zad ad N q) st = _
    rw [zts_agr ha st hst]
    unfold zad; rw [if_pos rfl]
  rw [e9] at h9
  exact h9
theorem z_nneg {n : Nat} (h : n ≤ 1300) : ¬ Int32.ofInt (n : Int) < 0 := by
  intro z
  rw [show (0 : Int32) = Int32.ofInt 0 from rfl, zR_lt (by unfold zR; omega) zR_zero] at z
  omega
section ZNW
variable {M : zM} {d w N : Nat} {W₀ : zWd} {pc : Nat} {ls st : List Value} {K : zKL}
theorem rl_newa_i {n : Nat} (hd : decode M.2.1 pc = .ok (.newarray .int, 2)) (harr : Cond.arrayClass .int ∈ zWs) (hk : zk (zov N) = (10, n)) (hN : N < 129) (hz : W₀ (zov (zpr (zov N)).1) ((zpr (zov N)).2 : Nat) = 0 ∨ N ≤ (zpr (zov N)).1) (hls : zLv N ls) (hst : zLv N st) (hn : n ≤ 1300) (kk : RN M d w (N + 1) (znew W₀ (zov N)) (pc + 2) ls (.ref (zov N) :: st) K) : RN M d (w + 1) N W₀ pc ls (zI (n : Int) :: st) K := by
  intro p l e R s m args below meth c cells slots Q D Y ad A hC hK H locs lsA hP hS hl
  obtain ⟨⟨h1, h2, h3, h4, h5⟩, c2, c3, c4, ⟨h6, h7, h8⟩, c6, c7, c8, c9, c10⟩ := id hC
  refine va_newa (atype := .int) h1 h2 (h5 _ (List.mem_cons_of_mem _ harr)) (ty := .int) rfl h6 hP.1 hP.2 hS c6 (N' := n) (a0 := (n, .inl (fun _ => 0))) (fun _ => rfl) (z_nneg hn) (by rw [z_clamp (by omega) (by omega)]; omega) (by show n * _ ≤ _; exact Nat.le_trans (Nat.mul_le_mul hn (show _ ≤ 8 by decide)) (by decide)) (by omega) (by omega) hd (fun q cA H1 hK1 hP1 hD1 hS1 => ?_)
  have e1 : s.vm.findClass ("[" ++ (FieldType.int).toString) = some cA := (hK1.2 5 (cA, .int) rfl).2
  have e2 : s.vm.findClass ("[" ++ (FieldType.int).toString) = some Y.1 := (h6.2 0 (Y.1, .int) rfl).2
  have e3 : cA = Y.1 := Option.some.inj (e1.symm.trans e2)
  subst e3
  refine rl_made hN hz hls hst hn kk hC hK ?_ hP1 hD1 hS1 hl
  rw [zcw_z Y _ _ hk (by decide) (by decide), zc_int Y _ _ hk]
  have e9 : ∀ j : Nat, znew W₀ (zov N) (zov N) j = 0 := fun j => znew_s
  simp only [e9]
  rfl
theorem rl_newa_b {n : Nat} (hd : decode M.2.1 pc = .ok (.newarray .byte, 2)) (harr : Cond.arrayClass .byte ∈ zWs) (hk : zk (zov N) = (11, n)) (hN : N < 129) (hz : W₀ (zov (zpr (zov N)).1) ((zpr (zov N)).2 : Nat) = 0 ∨ N ≤ (zpr (zov N)).1) (hls : zLv N ls) (hst : zLv N st) (hn : n ≤ 1300) (kk : RN M d w (N + 1) (znew W₀ (zov N)) (pc + 2) ls (.ref (zov N) :: st) K) : RN M d (w + 1) N W₀ pc ls (zI (n : Int) :: st) K := by
  intro p l e R s m args below meth c cells slots Q D Y ad A hC hK H locs lsA hP hS hl
  obtain ⟨⟨h1, h2, h3, h4, h5⟩, c2, c3, c4, ⟨h6, h7, h8⟩, c6, c7, c8, c9, c10⟩ := id hC
  refine va_newa (atype := .byte) h1 h2 (h5 _ (List.mem_cons_of_mem _ harr)) (ty := .byte) rfl h6 hP.1 hP.2 hS c6 (N' := n) (a0 := (n, .inl (fun _ => 0))) (fun _ => rfl) (z_nneg hn) (by rw [z_clamp (by omega) (by omega)]; omega) (by show n * _ ≤ _; exact Nat.le_trans (Nat.mul_le_mul hn (show _ ≤ 8 by decide)) (by decide)) (by omega) (by omega) hd (fun q cA H1 hK1 hP1 hD1 hS1 => ?_)
  have e1 : s.vm.findClass ("[" ++ (FieldType.byte).toString) = some cA := (hK1.2 5 (cA, .byte) rfl).2
  have e2 : s.vm.findClass ("[" ++ (FieldType.byte).toString) = some Y.2.1 := (h6.2 1 (Y.2.1, .byte) rfl).2
  have e3 : cA = Y.2.1 := Option.some.inj (e1.symm.trans e2)
  subst e3
  refine rl_made hN hz hls hst hn kk hC hK ?_ hP1 hD1 hS1 hl
  rw [zcw_z Y _ _ hk (by decide) (by decide), zc_byte Y _ _ hk]
  have e9 : ∀ j : Nat, znew W₀ (zov N) (zov N) j = 0 := fun j => znew_s
  simp only [e9]
  rfl
theorem rl_newa_z {n : Nat} (hd : decode M.2.1 pc = .ok (.newarray .boolean, 2)) (harr : Cond.arrayClass .boolean ∈ zWs) (hk : zk (zov N) = (12, n)) (hN : N < 129) (hz : W₀ (zov (zpr (zov N)).1) ((zpr (zov N)).2 : Nat) = 0 ∨ N ≤ (zpr (zov N)).1) (hls : zLv N ls) (hst : zLv N st) (hn : n ≤ 1300) (kk : RN M d w (N + 1) (znew W₀ (zov N)) (pc + 2) ls (.ref (zov N) :: st) K) : RN M d (w + 1) N W₀ pc ls (zI (n : Int) :: st) K := by
  intro p l e R s m args below meth c cells slots Q D Y ad A hC hK H locs lsA hP hS hl
  obtain ⟨⟨h1, h2, h3, h4, h5⟩, c2, c3, c4, ⟨h6, h7, h8⟩, c6, c7, c8, c9, c10⟩ := id hC
  refine va_newa (atype := .boolean) h1 h2 (h5 _ (List.mem_cons_of_mem _ harr)) (ty := .boolean) rfl h6 hP.1 hP.2 hS c6 (N' := n) (a0 := (n, .inl (fun _ => 0))) (fun _ => rfl) (z_nneg hn) (by rw [z_clamp (by omega) (by omega)]; omega) (by show n * _ ≤ _; exact Nat.le_trans (Nat.mul_le_mul hn (show _ ≤ 8 by decide)) (by decide)) (by omega) (by omega) hd (fun q cA H1 hK1 hP1 hD1 hS1 => ?_)
  have e1 : s.vm.findClass ("[" ++ (FieldType.boolean).toString) = some cA := (hK1.2 5 (cA, .boolean) rfl).2
  have e2 : s.vm.findClass ("[" ++ (FieldType.boolean).toString) = some Y.2.2.1 := (h6.2 2 (Y.2.2.1, .boolean) rfl).2
  have e3 : cA = Y.2.2.1 := Option.some.inj (e1.symm.trans e2)
  subst e3
  refine rl_made hN hz hls hst hn kk hC hK ?_ hP1 hD1 hS1 hl
  rw [zcw_z Y _ _ hk (by decide) (by decide), zc_bool Y _ _ hk]
  have e9 : ∀ j : Nat, znew W₀ (zov N) (zov N) j = 0 := fun j => znew_s
  simp only [e9]
  rfl
theorem rl_newa_l {n : Nat} (hd : decode M.2.1 pc = .ok (.newarray .long, 2)) (harr : Cond.arrayClass .long ∈ zWs) (hk : zk (zov N) = (14, n)) (hN : N < 129) (hz : W₀ (zov (zpr (zov N)).1) ((zpr (zov N)).2 : Nat) = 0 ∨ N ≤ (zpr (zov N)).1) (hls : zLv N ls) (hst : zLv N st) (hn : n ≤ 1300) (kk : RN M d w (N + 1) (znew W₀ (zov N)) (pc + 2) ls (.ref (zov N) :: st) K) : RN M d (w + 1) N W₀ pc ls (zI (n : Int) :: st) K := by
  intro p l e R s m args below meth c cells slots Q D Y ad A hC hK H locs lsA hP hS hl
  obtain ⟨⟨h1, h2, h3, h4, h5⟩, c2, c3, c4, ⟨h6, h7, h8⟩, c6, c7, c8, c9, c10⟩ := id hC
  refine va_newa (atype := .long) h1 h2 (h5 _ (List.mem_cons_of_mem _ harr)) (ty := .long) rfl h6 hP.1 hP.2 hS c6 (N' := n) (a0 := (n, .inr (.inl (fun _ => 0)))) (fun _ => rfl) (z_nneg hn) (by rw [z_clamp (by omega) (by omega)]; omega) (by show n * _ ≤ _; exact Nat.le_trans (Nat.mul_le_mul hn (show _ ≤ 8 by decide)) (by decide)) (by omega) (by omega) hd (fun q cA H1 hK1 hP1 hD1 hS1 => ?_)
  have e1 : s.vm.findClass ("[" ++ (FieldType.long).toString) = some cA := (hK1.2 5 (cA, .long) rfl).2
  have e2 : s.vm.findClass ("[" ++ (FieldType.long).toString) = some Y.2.2.2.2 := (h6.2 4 (Y.2.2.2.2, .long) rfl).2
  have e3 : cA = Y.2.2.2.2 := Option.some.inj (e1.symm.trans e2)
  subst e3
  refine rl_made hN hz hls hst hn kk hC hK ?_ hP1 hD1 hS1 hl
  rw [zcw_z Y _ _ hk (by decide) (by decide), zc_long Y _ _ hk]
  have e9 : ∀ j : Nat, znew W₀ (zov N) (zov N) j = 0 := fun j => znew_s
  simp only [e9]
  rfl
/-- a row of courts -/
theorem rl_newq {n index : Nat} (hd : decode M.2.1 pc = .ok (.anewarray index, 3)) (hlk : Cond.classLink M.1 index "HopscotchCourt$Court" ∈ zWs) (hk : zk (zov N) = (13, n)) (hN : N < 129) (hz : W₀ (zov (zpr (zov N)).1) ((zpr (zov N)).2 : Nat) = 0 ∨ N ≤ (zpr (zov N)).1) (hls : zLv N ls) (hst : zLv N st) (hn : n ≤ 1300) (kk : RN M d w (N + 1) (znew W₀ (zov N)) (pc + 3) ls (.ref (zov N) :: st) K) : RN M d (w + 1) N W₀ pc ls (zI (n : Int) :: st) K := by
  intro p l e R s m args below meth c cells slots Q D Y ad A hC hK H locs lsA hP hS hl
  obtain ⟨⟨h1, h2, h3, h4, h5⟩, c2, c3, c4, ⟨h6, h7, h8⟩, c6, c7, c8, c9, c10⟩ := id hC
  refine va_newq (C := "HopscotchCourt$Court") h1 h2 h4 (h5 _ (List.mem_cons_of_mem _ hlk)) h8 h6 hP.1 hP.2 hS c6 (N' := n) (z_nneg hn) (by rw [z_clamp (by omega) (by omega)]; omega) (by omega) (by omega) (by omega) hd (fun q cA H1 hK1 hP1 hD1 hS1 => ?_)
  obtain ⟨kA, comp, -, -, -, e1⟩ := (hK1.2 5 (cA, .object "HopscotchCourt$Court") rfl).2
  obtain ⟨kA2, comp2, -, -, -, e2⟩ := (h6.2 3 (Y.2.2.2.1, .object "HopscotchCourt$Court") rfl).2
  have e3 : cA = Y.2.2.2.1 := Option.some.inj (e1.symm.trans e2)
  subst e3
  refine rl_made hN hz hls hst hn kk hC hK ?_ hP1 hD1 hS1 hl
  rw [zcw_refs Y _ _ hk]
  have e9 : ∀ j : Nat, znew W₀ (zov N) (zov N) j = 0 := fun j => znew_s
  simp only [e9]
  simp
/-- an object -/
theorem rl_new {index ci : Nat} {C : String} {T : u_T} {ty0 : Nat → FieldType} {fs : List Value} (hd : decode M.2.1 pc = .ok (.new index, 3)) (hcl : vwCl[ci]? = some (C, T, znf ci)) (hci : ci < 8) (hws : ∀ w ∈ u_ws C T (znf ci), w ∈ zWs) (hty : ∀ k, k < znf ci → parseFieldDescriptor (T k).2.2.1 = some (ty0 k)) (hlk : Cond.classLink M.1 index C ∈ zWs) (hins : Cond.instantiable C (znf ci) ∈ zWs) (hini : Cond.initialized C ∈ zWs) (hfs : ∀ j, j < znf ci → defaultValue (ty0 j) = vp_V fs j)
    (hk : zk (zov N) = (ci, 0)) (hfz : ∀ (ad : Nat → Nat) (W : zWd), fs = (List.range (znf ci)).map (zfw ad (znew W (zov N)) (zov N))) (hnf : znf ci ≤ 1300) (hN : N < 129) (hz : W₀ (zov (zpr (zov N)).1) ((zpr (zov N)).2 : Nat) = 0 ∨ N ≤ (zpr (zov N)).1) (hls : zLv N ls) (hst : zLv N st) (kk : RN M d w (N + 1) (znew W₀ (zov N)) (pc + 3) ls (.ref (zov N) :: st) K) : RN M d (w + 1) N W₀ pc ls st K := by
  intro p l e R s m args below meth c cells slots Q D Y ad A hC hK H locs lsA hP hS hl
  obtain ⟨⟨h1, h2, h3, h4, h5⟩, c2, c3, c4, ⟨h6, h7, h8⟩, c6, c7, c8, c9, c10⟩ := id hC
  refine va_new (ci := ci) (fs := fs) (C := C) (T := T) (N := znf ci) h1 h2 h5 (fun w hw => List.mem_cons_of_mem _ (hws w hw)) ty0 hty h4 (h5 _ (List.mem_cons_of_mem _ hlk)) (h5 _ (List.mem_cons_of_mem _ hins)) (h5 _ (List.mem_cons_of_mem _ hini)) h6 hP.1 hP.2 hS c6 hcl hfs (by omega) (by omega) hd (fun q H1 hP1 hD1 hS1 => ?_)
  refine rl_made hN hz hls hst hnf kk hC hK ?_ hP1 hD1 hS1 hl
  rw [zcw_obj Y _ _ hk hci, hfz]
end ZNW
/-! a method that makes w things, and answers nothing -/
def zEPL (D : va_G) (Y : zY) (A : Nat → Prop) (N : Nat) (ad : Nat → Nat) (W₀ : zWd) (args : List Value) : Array Value → State → Prop := va_Pc (zts ad args) (fun U => zSt D Y A N ad W₀ U.heap ∧ zEL D Y U ∧ ∀ q : Nat, U.heap.size ≤ q → A q)
def zEQL (D : va_G) (Y : zY) (A : Nat → Prop) (N N' : Nat) (ad : Nat → Nat) (Q : zWd → Prop) : Array Value → State → Outcome → State → Prop := fun _ st oc tt => (∃ (ad' : Nat → Nat) (W' : zWd), oc = .returned none ∧ zAgr N ad ad' ∧ Q W' ∧ zSt D Y A N' ad' W' tt.heap) ∧ va_F A st tt
def zRmL (d w : Nat) : Room := { frames := d, cells := w, slots := 1300 * w, locals := 40 * d }
def EvN (M : zM) (d w N : Nat) (W₀ : zWd) (args : List Value) (Q : zWd → Prop) : Prop :=
  ∀ (l : Launch) (D : va_G) (Y : zY) (ad : Nat → Nat) (A : Nat → Prop), Met l M.2.2.2.1 (zwM M) (zRmL d w) (zEPL D Y A N ad W₀ args) (zEQL D Y A N (N + w) ad Q) w (1300 * w) A
def zEndL (M : zM) (N9 : Nat) (Q : zWd → Prop) : zKL := fun _ N' pc _ st W' => M.2.2.2.2 = none ∧ decode M.2.1 pc = .ok (.return_, 1) ∧ st = [] ∧ N' = N9 ∧ Q W'
theorem rl_ret {M : zM} {d w N : Nat} {W₀ : zWd} {pc : Nat} {ls : List Value} {Q : zWd → Prop} (hd : decode M.2.1 pc = .ok (.return_, 1)) (hr : M.2.2.2.2 = none) (h : Q W₀) : RN M d w N W₀ pc ls [] (zEndL M N Q) := rl_base ⟨hr, hd, rfl, rfl, h⟩
theorem zBlindL {D : va_G} {Y : zY} {A : Nat → Prop} {N : Nat} {ad : Nat → Nat} {W₀ : zWd} {args : List Value} : FrameBlind (zEPL D Y A N ad W₀ args) := fun a U g mk h => ⟨h.1, h.2.1, h.2.2.1.move (State.WarmedH.refl U), h.2.2.2⟩
theorem ev_ofL {M : zM} {d w N : Nat} {W₀ : zWd} {args ls : List Value} {Q : zWd → Prop} (hy : plainName M.2.2.2.1.cls = true) (hy2 : M.1 = M.2.2.2.1.cls) (hl0 : ∀ ad, lv_args 0 (zts ad args) = zl ad 0 ls) (hn : ∀ ad, (lg_sl (zts ad args)).length ≤ M.2.2.1)
    (h : RN M d w N W₀ 0 ls [] (zEndL M (N + w) Q)) : EvN M d w N W₀ args Q := by
  intro l D Y ad A
  refine Met.ofW (cc := M.2.1) (maxL := M.2.2.1) (ret := M.2.2.2.2) hy rfl ?_
  intro p e s m a below meth c s₁ B hml hv
  obtain ⟨rfl, hP, hE, hA⟩ := hv
  have hts := atoms_spec (ws := zwM M) B.pre
  have hown : s.vm.findClass M.1 = some m.cls := by rw [hy2]; exact findClass_of_methodNamed B.named
  have hlocks := B.notSynchronized
  have hx := B.exec
  have hb := B.bytes
  have hnm : meth.name = M.2.2.2.1.name := (name_of_methodNamed B.named B.method).1
  have hC : zCL M d w p (headSpec (zwM M) (zRmL d w)).room s m (zts ad args).toArray meth c 0 0 D Y A :=
    ⟨⟨hx, hb, hml, hown, hts⟩, hlocks, hnm, B.returns, hE, hA, Nat.le_refl _, Nat.le_refl _, by show 0 + w ≤ w; omega, by show 0 + 1300 * w ≤ 1300 * w; omega⟩
  have hl := lv_entry (zts ad args) (n := M.2.2.1) (hn ad)
  rw [hl0 ad] at hl
  rw [lg_entry_eq]
  refine h p l e _ s m (zts ad args).toArray below meth c 0 0 _ D Y ad A hC ?_ s.heap [] _ hP va_S.rf hl
  intro w' N' ad' pc' ls' st' W' H' locs' lsA' cells' slots' ha hn9 hk hP' hS' hl' hc' hs'
  obtain ⟨hr, hdg, rfl, rfl, hq⟩ := hk
  refine W.widen (k := w) (n := 1300 * w) (by omega) (by omega) ?_
  exact W.vret hx hb (B.returns.trans hr) (fun tt htt hW => ⟨⟨ad', W', rfl, ha, hq, by rw [htt]; exact hP'⟩, hS'.F htt⟩) hS'.2.2 hdg hlocks
/-- the caller goes on behind a call -/
theorem z_goL {M : zM} {d w w' N pc : Nat} {ls st st0 : List Value} {K : zKL} {p : Program} {l : Launch} {e : Env} {R : Room} {s : State} {m : MethodId} {args : Array Value} {below : List Frame} {meth : Method} {c : Code} {cells slots : Nat} {Q : State → Prop} {D : va_G} {Y : zY} {ad : Nat → Nat} {A : Nat → Prop} {H : Heap} {locs : List Loc} {lsA : Array Slot} {a : Array Value} (hww : w' ≤ w) (hls : zLv N ls) (hst : zLv N st)
    (hC : zCL M d w p R s m args meth c cells slots D Y A)
    (hK : ∀ (w' N' : Nat) (ad' : Nat → Nat) (pc' : Nat) (ls' st' : List Value) (W' : zWd) (H' : Heap) (locs' : List Loc) (lsA' : Array Slot) (cells' slots' : Nat), zAgr N ad ad' → N ≤ N' → K w' N' pc' ls' st' W' → zSt D Y A N' ad' W' H' → va_S A s.heap H' locs' → lv_has lsA' M.2.2.1 (zl ad' 0 ls') → cells' + w' ≤ cells + w → slots' + 1300 * w' ≤ slots + 1300 * w → W p l e R s m args below meth c H' locs' cells' slots' Q (F0 m pc' lsA' (zts ad' st')))
    (hS : va_S A s.heap H locs) (hl : lv_has lsA M.2.2.1 (zl ad 0 ls))
    (hr : va_Run p l e R s m args below meth c H locs cells slots w' (1300 * w') (F0 m pc lsA st0) (zts ad st) (zEQL D Y A N (N + w') ad (fun W' => RN M d (w - w') (N + w') W' (pc + 3) ls st K) a) A) :
    W p l e R s m args below meth c H locs cells slots Q (F0 m pc lsA st0) := by
  intro T hT X0
  obtain ⟨v, st₀, t9, T', LL, h0, X', hL, e1, e2, ⟨⟨ad', W', hv9, ha, hq, hb9⟩, hF⟩, st9⟩ := hr T hT X0
  cases hv9
  obtain ⟨k1, k2, k3⟩ := vx_keep h0 e1 hS (fun q _ h => h) (fun q h => h) hL hF
  obtain ⟨c1, c2, c3, c4, c5, c6, c7, c8, c9, c10⟩ := id hC
  have h9 := hq p l e R s m args below meth c (cells + w') (slots + 1300 * w') Q D Y ad' A ⟨c1, c2, c3, c4, c5, c6, c7, c8, by omega, by omega⟩ (fun w2 N2 ad2 pc2 ls2 st2 W2 H2 locs2 lsA2 cells2 slots2 g1 g2 g3 g4 g5 g6 g7 g8 => hK w2 N2 ad2 pc2 ls2 st2 W2 H2 locs2 lsA2 cells2 slots2 (ha.tr g1 (by omega)) (by omega) g3 g4 g5 g6 (by omega) (by omega)) T'.heap (locs ++ LL) lsA (by rw [e1]; exact hb9) k3 (by rw [zl_agr ha ls 0 hls]; exact hl)
  rw [zts_agr ha st hst] at h9
  obtain ⟨t2, a1, b1⟩ := h9 T' rfl X'
  exact ⟨t2, st9 t2 a1, b1⟩
section ZCA
variable {M M' : zM} {d d' w w' N n : Nat} {W₀ : zWd} {pc : Nat} {ls st : List Value} {K : zKL} {index ci k ik : Nat} {As : List Value}
theorem z_callBL {R : Room} {s : State} {args : Array Value} (hts : ∀ w ∈ zwM M, w.before args s = true) (hcm : zCm M' n) (hl : Cond.methodLink M.1 index M'.2.2.2.1 ∈ zWs) (h1 : d' + 1 ≤ R.frames) (h2 : 8 + (M'.2.2.1 + 11) + 40 * d' ≤ R.locals) : CallB R s args M.1 index M'.2.2.2.1 M'.2.1 M'.2.2.1 M'.2.2.2.2 (zwM M') (zRmL d' w') w' (1300 * w') n := by
  obtain ⟨w1, w2, w3, w4, w5, w6⟩ := hcm
  exact callB_of n hts (zwM_good M M' w1) rfl rfl rfl (by rw [w3]; exact hts _ (List.mem_cons_of_mem _ w2)) (hts _ (List.mem_cons_of_mem _ hl)) ⟨w4, w5, w6⟩ ⟨h1, h2⟩
theorem zE_warmL {D : va_G} {Y : zY} {ad : Nat → Nat} {A : Nat → Prop} {args : List Value} {s U : State} {H : Heap} {locs : List Loc} (hU : U.heap = H) (hW : s.WarmedH U.vm) (hS : va_S A s.heap H locs) (hE : zEL D Y s) (hP : zSt D Y A N ad W₀ H) (hA : ∀ q : Nat, s.heap.size ≤ q → A q) : zEPL D Y A N ad W₀ args (zts ad args).toArray U :=
  ⟨rfl, by rw [hU]; exact hP, hE.move hW, fun q hq => hA q (Nat.le_trans hS.1 (by rw [← hU]; exact hq))⟩
theorem rl_inv {T : u_T} {N9 : Nat} (hd : decode M.2.1 pc = .ok (.invokevirtual index, 3)) (hl : Cond.methodLink M.1 index M'.2.2.2.1 ∈ zWs) (hcm : zCm M' n) (hvm : zVm M') (hk : zk k = (ci, 0)) (hci : ci < 8) (hnk : ik < N) (hik : zov ik = k) (hcl : vwCl[ci]? = some (M'.1, T, N9)) (hdd : d' + 1 ≤ d) (hww : w' ≤ w) (hlo : M'.2.2.1 ≤ 21) (hsc : (st.map fun v => v.category).sum ≤ 8) (hn : As.length = n) (hls : zLv N ls) (hst : zLv N st)
    (hE : EvN M' d' w' N W₀ (.ref k :: As) (fun W' => RN M d (w - w') (N + w') W' (pc + 3) ls st K)) : RN M d w N W₀ pc ls (As.reverse ++ .ref k :: st) K := by
  intro p l e R s m args below meth c cells slots Q D Y ad A hC hK H locs lsA hP hS hlv
  obtain ⟨⟨h1, h2, h3, h4, h5⟩, c2, c3, c4, c5, c6, c7, c8, c9, c10⟩ := id hC
  have he := zww_at Y ad W₀ hnk hik
  rw [zcw_obj Y ad W₀ hk hci] at he
  refine z_goL hww hls hst hC hK hS hlv (a := (Value.ref (ad k) :: zts ad As).toArray) ?_
  refine va_runV (C := M'.1) (n := n) (bytes := M'.2.1) (maxL := M'.2.2.1) (ret := M'.2.2.2.2) (As := zts ad As) (b := ad k) ⟨h1, h2, h3, h4, h5⟩ (hE l D Y ad A) ⟨z_callBL h5 hcm hl (by omega) (by omega), h5 _ (List.mem_cons_of_mem _ hvm.1), h5 _ (List.mem_cons_of_mem _ hvm.2)⟩ ⟨zBlindL, va_recv c5.1 hP.1 hcl he, fun U hU hW => ?_⟩ rfl (by rw [zts_len]; exact hn) hlv.1 ?_ (lv_room (by rw [zts_cat]; exact hsc)) hd ⟨by omega, by omega⟩
  · exact zE_warmL (args := .ref k :: As) hU hW hS c5 hP c6
  · show zts ad (As.reverse ++ .ref k :: st) = _
    rw [zts_app, zts_rev]; rfl
theorem rl_invN {T : u_T} {N9 : Nat} {host : String} (hd : decode M.2.1 pc = .ok (.invokevirtual index, 3)) (hl : Cond.methodLinkNest M.1 index M'.2.2.2.1 host ∈ zNst) (hcm : zCm M' n) (hvm : zVm M') (hk : zk k = (ci, 0)) (hci : ci < 8) (hnk : ik < N) (hik : zov ik = k) (hcl : vwCl[ci]? = some (M'.1, T, N9)) (hdd : d' + 1 ≤ d) (hww : w' ≤ w) (hlo : M'.2.2.1 ≤ 21) (hsc : (st.map fun v => v.category).sum ≤ 8) (hn : As.length = n) (hls : zLv N ls) (hst : zLv N st)
    (hE : EvN M' d' w' N W₀ (.ref k :: As) (fun W' => RN M d (w - w') (N + w') W' (pc + 3) ls st K)) : RN M d w N W₀ pc ls (As.reverse ++ .ref k :: st) K := by
  intro p l e R s m args below meth c cells slots Q D Y ad A hC hK H locs lsA hP hS hlv
  obtain ⟨⟨h1, h2, h3, h4, h5⟩, c2, c3, c4, c5, c6, c7, c8, c9, c10⟩ := id hC
  have he := zww_at Y ad W₀ hnk hik
  rw [zcw_obj Y ad W₀ hk hci] at he
  obtain ⟨w1, w2, w3, w4, w5, w6⟩ := hcm
  refine z_goL hww hls hst hC hK hS hlv (a := (Value.ref (ad k) :: zts ad As).toArray) ?_
  refine va_runVN (C := M'.1) (n := n) (bytes := M'.2.1) (maxL := M'.2.2.1) (ret := M'.2.2.2.2) (As := zts ad As) (b := ad k) ⟨h1, h2, h3, h4, h5⟩ (hE l D Y ad A) ⟨va_cnB n h5 (zwM_good M M' w1) rfl rfl rfl (c5.2.1 _ hl) (by rw [w3]; exact h5 _ (List.mem_cons_of_mem _ w2)) ⟨w4, w5, w6⟩ ⟨by show d' + 1 ≤ _; omega, by show 8 + (_ + 11) + 40 * d' ≤ _; omega⟩, h5 _ (List.mem_cons_of_mem _ hvm.1), h5 _ (List.mem_cons_of_mem _ hvm.2)⟩ ⟨zBlindL, va_recv c5.1 hP.1 hcl he, fun U hU hW => ?_⟩ rfl (by rw [zts_len]; exact hn) hlv.1 ?_ (lv_room (by rw [zts_cat]; exact hsc)) hd ⟨by omega, by omega⟩
  · exact zE_warmL (args := .ref k :: As) hU hW hS c5 hP c6
  · show zts ad (As.reverse ++ .ref k :: st) = _
    rw [zts_app, zts_rev]; rfl
/-- a constructor, by its link -/
theorem rl_ctor (hd : decode M.2.1 pc = .ok (.invokespecial index, 3)) (hl : Cond.methodLink M.1 index M'.2.2.2.1 ∈ zWs) (hcm : zCm M' n) (him : Cond.instanceMethod M'.2.2.2.1 ∈ zWs) (hnm : M'.2.2.2.1.name = "<init>") (hret : M'.2.2.2.2 = none) (hdd : d' + 1 ≤ d) (hww : w' ≤ w) (hlo : M'.2.2.1 ≤ 21) (hsc : (st.map fun v => v.category).sum ≤ 8) (hn : As.length = n) (hls : zLv N ls) (hst : zLv N st)
    (hE : EvN M' d' w' N W₀ (.ref k :: As) (fun W' => RN M d (w - w') (N + w') W' (pc + 3) ls st K)) : RN M d w N W₀ pc ls (As.reverse ++ .ref k :: st) K := by
  intro p l e R s m args below meth c cells slots Q D Y ad A hC hK H locs lsA hP hS hlv
  obtain ⟨⟨h1, h2, h3, h4, h5⟩, c2, c3, c4, c5, c6, c7, c8, c9, c10⟩ := id hC
  refine z_goL hww hls hst hC hK hS hlv (a := (Value.ref (ad k) :: zts ad As).toArray) ?_
  have cb := z_callBL (M := M) (M' := M') (w' := w') (R := R) h5 hcm hl (show d' + 1 ≤ R.frames by omega) (by omega)
  rw [hret] at cb
  refine va_runI (n := n) (bytes := M'.2.1) (maxL := M'.2.2.1) (As := zts ad As) (b := ad k) ⟨h1, h2, h3, h4, h5⟩ (hE l D Y ad A) ⟨cb, hnm, h5 _ (List.mem_cons_of_mem _ him)⟩ ⟨zBlindL, fun U hU hW => ?_⟩ rfl (by rw [zts_len]; exact hn) hlv.1 ?_ (lv_room (by rw [zts_cat]; exact hsc)) hd ⟨by omega, by omega⟩
  · exact zE_warmL (args := .ref k :: As) hU hW hS c5 hP c6
  · show zts ad (As.reverse ++ .ref k :: st) = _
    rw [zts_app, zts_rev]; rfl
/-- a nest mate's constructor -/
theorem rl_ctorN {host : String} (hd : decode M.2.1 pc = .ok (.invokespecial index, 3)) (hl : Cond.methodLinkNest M.1 index M'.2.2.2.1 host ∈ zNst) (hcm : zCm M' n) (him : Cond.instanceMethod M'.2.2.2.1 ∈ zWs) (hnm : M'.2.2.2.1.name = "<init>") (hret : M'.2.2.2.2 = none) (hdd : d' + 1 ≤ d) (hww : w' ≤ w) (hlo : M'.2.2.1 ≤ 21) (hsc : (st.map fun v => v.category).sum ≤ 8) (hn : As.length = n) (hls : zLv N ls) (hst : zLv N st)
    (hE : EvN M' d' w' N W₀ (.ref k :: As) (fun W' => RN M d (w - w') (N + w') W' (pc + 3) ls st K)) : RN M d w N W₀ pc ls (As.reverse ++ .ref k :: st) K := by
  intro p l e R s m args below meth c cells slots Q D Y ad A hC hK H locs lsA hP hS hlv
  obtain ⟨⟨h1, h2, h3, h4, h5⟩, c2, c3, c4, c5, c6, c7, c8, c9, c10⟩ := id hC
  obtain ⟨w1, w2, w3, w4, w5, w6⟩ := hcm
  refine z_goL hww hls hst hC hK hS hlv (a := (Value.ref (ad k) :: zts ad As).toArray) ?_
  have cb : va_CN R s args M.1 index M'.2.2.2.1 host M'.2.1 M'.2.2.1 M'.2.2.2.2 (zwM M') (zRmL d' w') w' (1300 * w') n := va_cnB n h5 (zwM_good M M' w1) rfl rfl rfl (c5.2.1 _ hl) (by rw [w3]; exact h5 _ (List.mem_cons_of_mem _ w2)) ⟨w4, w5, w6⟩ ⟨by show d' + 1 ≤ _; omega, by show 8 + (_ + 11) + 40 * d' ≤ _; omega⟩
  rw [hret] at cb
  refine va_runIN (n := n) (bytes := M'.2.1) (maxL := M'.2.2.1) (As := zts ad As) (b := ad k) ⟨h1, h2, h3, h4, h5⟩ (hE l D Y ad A) ⟨cb, hnm, h5 _ (List.mem_cons_of_mem _ him)⟩ ⟨zBlindL, fun U hU hW => ?_⟩ rfl (by rw [zts_len]; exact hn) hlv.1 ?_ (lv_room (by rw [zts_cat]; exact hsc)) hd ⟨by omega, by omega⟩
  · exact zE_warmL (args := .ref k :: As) hU hW hS c5 hP c6
  · show zts ad (As.reverse ++ .ref k :: st) = _
    rw [zts_app, zts_rev]; rfl
end ZCA
