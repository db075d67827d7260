theorem zSt_nil {D : va_G} {Y : zY} {A : Nat → Prop} {ad : Nat → Nat} {W : zWd} {H : Heap} : zSt D Y A 0 ad W H := by
  refine ⟨?_, ?_⟩
  · intro j w h
    exact absurd h (by simp [zww])
  · refine ⟨fun i j p q h => ?_, fun k q h => ?_⟩
    · exact absurd h (by simp [zww])
    · exact absurd h (by simp [zww])
theorem zWhole (hN : zNN) {p : Program} {e : Env} {s : State} {m : MethodId} {below : List Frame} {meth : Method} {c : Code} (l : Launch) (hst : l.stackTraces = false) {b L : Nat} {xs : Nat → Int32} (hL : L ≤ 3072) (hx : p.tables.exec = Jvm.exec) (hb : c.code = cL_law) (hr : meth.sig.returnType = ret) (hml : c.maxLocals = 9) (hown : s.vm.findClass RL = some m.cls) (hts : ∀ w ∈ lw_tbl, w.before #[Value.ref b] s = true) (hX : va_X b L xs s s.heap) (hbl : b < s.heap.size) (hlocks : meth.locks = false) (hgv : (Jvm.Cond.and given_1 narrow_1).before #[Value.ref b] s = true) (hnm : meth.name = yL_law.name) (hh : ∀ x ∈ c.exceptionTable.toList, False) (hcd : (Cond.code yL_law cL_law 9 ret).before #[Value.ref b] s = true) {Q : State → Prop}
    (hQ : ∀ (pc : Nat) (H : Heap) (ls : Array Slot), decode cL_law pc = .ok (.ireturn, 1) → W p l e room_1 s m #[Value.ref b] below meth c H [] 601024 7293034 Q (F0 m pc ls [.int 1])) :
    W p l e room_1 s m #[Value.ref b] below meth c s.heap [] 0 0 Q (entryFrame m ([Value.ref b] : List Value).toArray 9) := by
  have hg : ∀ w ∈ zF9, w.before #[Value.ref b] s = true := flat_of_before _ hgv
  obtain ⟨A, hAq⟩ : ∃ A : Nat → Prop, ∀ q : Nat, A q ↔ s.heap.size ≤ q := ⟨fun q => s.heap.size ≤ q, fun _ => Iff.rfl⟩
  have hA1 : ∀ q : Nat, s.heap.size ≤ q → A q := fun q h => (hAq q).mpr h
  have hA2 : ∀ q : Nat, q < s.heap.size → ¬ A q := fun q h h1 => by
    have h2 := (hAq q).mp h1
    omega
  obtain ⟨D, Y, hEL⟩ := zEL_get hts
  obtain ⟨ad, ad1300, hzE⟩ := zE_get hts hg hA2 b
  have hNc := (zSt_get hts hg hA2).2.2.2.2
  have hl := lv_entry ([.ref b]) (n := 9) (Nat.le_of_ble_eq_true rfl)
  rw [lg_entry_eq]
  generalize (lg_sl ([.ref b]) ++ List.replicate (9 - (lg_sl ([.ref b])).length) Slot.unset).toArray = ls at hl ⊢
  have hl : lv_has ls 9 (zl ad 0 [.ref 1300, .null, .null, .null, .null, .null, .null, .null, .null]) := by
    show lv_has ls 9 [(0, .ref (ad 1300))]
    rw [ad1300]
    exact hl
  have hw : ∀ w ∈ zwM MLaw, w.before #[Value.ref b] s = true := by
    intro w h
    rcases List.mem_cons.mp h with rfl | h1
    · exact hcd
    · exact hts w (List.mem_filter.mp h1).1
  have hCL : zCL MLaw 5 129 p room_1 s m #[.ref b] meth c 0 0 D Y A := ⟨⟨hx, hb, hml, hown, hw⟩, hlocks, hnm, hr, hEL, hA1, by decide, by decide, by decide, by decide⟩
  refine law_made (K := fun w' N' pc' ls' st' W' => w' = 0 ∧ N' = 129 ∧ pc' = 23 ∧ ls' = zLS 0 ∧ st' = [] ∧ zMd W') (fun F hF => ⟨rfl, rfl, rfl, rfl, rfl, hF⟩) p l e room_1 s m #[.ref b] below meth c 0 0 Q D Y ad A hCL ?_ s.heap [] ls zSt_nil va_S.rf hl
  intro w' N' ad' pc' ls' st' W' H' locs' lsA' cells' slots' hag hn hk hP hS hl' hc hs
  obtain ⟨rfl, rfl, rfl, rfl, rfl, hF⟩ := hk
  have had' : ad' 1300 = b := (hag.2 1300 (by decide)).trans ad1300
  have hE := hzE D Y hEL ad' hag.2
  have r1 : room_1.cells = 601024 := rfl
  have r2 : room_1.slots = 7293034 := rfl
  have hC : zC MLaw 11 1026 p l room_1 s m #[.ref b] meth c cells' slots' D Y ad' A := ⟨hCL.1, hst, hlocks, hh, hr, hE, zAd_all hP.2, hA1, by decide, by decide, by rw [r1]; omega, by rw [r2]; omega⟩
  obtain ⟨hfull, hI⟩ := hF
  refine lw_loop (b := b) (L := L) (xs := xs) hL hN 513 1026 W' 0 0 (by omega) (by omega) (by omega) (by omega) (by omega) hI p l e room_1 s m #[.ref b] below meth c cells' slots' Q D Y ad' A hC hNc hX hbl (hA2 b hbl) had' ?_ H' locs' lsA' (zww_all hP.1 hfull.ok) hS hl'
  intro pc2 H2 locs2 lsA2 cells2 slots2 hd hS2 hc2 hs2
  refine va_forget (fun q hq => (hAq _).mp (hS2.2.2 q hq)) ?_
  refine W.widen (k := 601024) (n := 7293034) (by omega) (by omega) ?_
  exact hQ pc2 H2 lsA2 hd
