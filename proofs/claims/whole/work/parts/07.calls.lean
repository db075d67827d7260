/-! a method's contract over worlds: from the world W₀ and these arguments it returns as Q says, or throws as X says; t: how many things of the exceptions may be made -/
def zEQ (D : va_G) (Y : zY) (ad : Nat → Nat) (A : Nat → Prop) (Q : Option Value → zWd → Prop) : Array Value → State → Outcome → State → Prop := fun _ st oc tt => (∃ (r : Option Value) (W' : zWd), oc = .returned (r.map (zt ad)) ∧ Q r W' ∧ va_P D vwCl (zws Y ad W') tt.heap) ∧ va_F A st tt
def zEX (D : va_G) (Y : zY) (ad : Nat → Nat) (A : Nat → Prop) (X : zX) : String → State → State → Prop := fun E st tt => (∃ W' : zWd, X E W' ∧ va_P D vwCl (zws Y ad W') tt.heap) ∧ va_F A st tt
def zEP (D : va_G) (Y : zY) (ad : Nat → Nat) (A : Nat → Prop) (W₀ : zWd) (args : List Value) : Array Value → State → Prop := va_Pc (zts ad args) (fun U => va_P D vwCl (zws Y ad W₀) U.heap ∧ zE D Y ad A U ∧ (∀ q : Nat, U.heap.size ≤ q → A q))
def zRm (d t : Nat) : Room := { frames := d, cells := t, slots := 6 * t, locals := 40 * d }
def Ev (M : zM) (d t : Nat) (W₀ : zWd) (args : List Value) (Q : Option Value → zWd → Prop) (X : zX) : Prop :=
  ∀ (l : Launch) (D : va_G) (Y : zY) (ad : Nat → Nat) (A : Nat → Prop), l.stackTraces = false → zAd ad A → vx_Met l M.2.2.2.1 (zwM M) (zRm d t) (zEP D Y ad A W₀ args) (zEQ D Y ad A Q) (zEX D Y ad A X) t (6 * t) A
/-- how 'throw new E("..")' stands at pc -/
def zThrow (M : zM) (pc : Nat) (E : String) : Prop := ∃ (ik is ic i : Nat) (text : String) (codes : List Int) (names : List String), decode M.2.1 pc = .ok (.new ik, 3) ∧ decode M.2.1 (pc + 3) = .ok (.dup, 1) ∧ decode M.2.1 (pc + 4) = .ok (.ldc is, 2) ∧ decode M.2.1 (pc + 6) = .ok (.invokespecial ic, 3) ∧ decode M.2.1 (pc + 9) = .ok (.athrow, 1) ∧
  Bundle.fit E = true ∧ (∀ n ∈ names, Bundle.fit n = true) ∧ names.length ≤ 3 ∧ Cond.classLink M.1 ik E ∈ zWs ∧ Cond.initialized E ∈ zWs ∧ zStrs[i]? = some (M.1, is, text, codes) ∧ (∀ w ∈ vx_atS M.1 ic E names, w ∈ zWs ∨ w ∈ zNst)
def zThrowW (M : zM) (pc : Nat) (E : String) : Prop := ∃ (ik is ic i : Nat) (text : String) (codes : List Int) (names : List String), decode M.2.1 pc = .ok (.new ik, 3) ∧ decode M.2.1 (pc + 3) = .ok (.dup, 1) ∧ decode M.2.1 (pc + 4) = .ok (.ldc_w is, 3) ∧ decode M.2.1 (pc + 7) = .ok (.invokespecial ic, 3) ∧ decode M.2.1 (pc + 10) = .ok (.athrow, 1) ∧
  Bundle.fit E = true ∧ (∀ n ∈ names, Bundle.fit n = true) ∧ names.length ≤ 3 ∧ Cond.classLink M.1 ik E ∈ zWs ∧ Cond.initialized E ∈ zWs ∧ zStrs[i]? = some (M.1, is, text, codes) ∧ (∀ w ∈ vx_atS M.1 ic E names, w ∈ zWs ∨ w ∈ zNst)
/-- the ends of a method -/
def zEnd (M : zM) (Q : Option Value → zWd → Prop) (X : zX) : zK := fun t' pc _ st W' =>
  (M.2.2.2.2 = none ∧ decode M.2.1 pc = .ok (.return_, 1) ∧ st = [] ∧ Q none W') ∨
  (∃ (ty : FieldType) (z : Int), M.2.2.2.2 = some ty ∧ decode M.2.1 pc = .ok (.ireturn, 1) ∧ st = [zI z] ∧ narrow ty (zI z) = zI z ∧ Q (some (zI z)) W') ∨
  (∃ (C : String) (k : Nat), M.2.2.2.2 = some (.object C) ∧ decode M.2.1 pc = .ok (.areturn, 1) ∧ st = [.ref k] ∧ Q (some (.ref k)) W') ∨
  (∃ E : String, (zThrow M pc E ∨ zThrowW M pc E) ∧ st = [] ∧ 1 ≤ t' ∧ X E W')
theorem zThrow_hat {own : String} {ic : Nat} {E : String} {names : List String} {M : zM} {args : Array Value} {s : State} (hts : ∀ w ∈ zwM M, w.before args s = true) (hn : ∀ w ∈ zNst, va_Nw w s) (h : ∀ w ∈ vx_atS own ic E names, w ∈ zWs ∨ w ∈ zNst) :
    (∀ w ∈ vx_atS own ic E names, w.before args s = true) ∧ ∀ w ∈ vx_atS own ic E names, vx_ot w = true := by
  refine ⟨fun w hw => ?_, fun w hw => ?_⟩
  · rcases h w hw with q | q
    · exact hts w (List.mem_cons_of_mem _ q)
    · exact va_Nw.use (zNst_on q) (hn w q)
  · rcases h w hw with q | q
    · simp [vx_ot, zWs_good q]
    · simp [vx_ot, zNst_on q]
theorem zKept {D : va_G} {Y : zY} {ad : Nat → Nat} {W₀ : zWd} {H H1 : Heap} (h : va_P D vwCl (zws Y ad W₀) H) (hk : ∀ q : Nat, q < H.size → H1[q]? = H[q]?) : va_P D vwCl (zws Y ad W₀) H1 := fun k q hq => (h k q hq).kept (hk q.1 (h k q hq).lt)
set_option maxHeartbeats 1000000 in
/-- a body's walk gives the contract -/
theorem ev_of {M : zM} {d t : Nat} {W₀ : zWd} {args ls : List Value} {Q : Option Value → zWd → Prop} {X : zX} (hy : plainName M.2.2.2.1.cls = true) (hy2 : M.1 = M.2.2.2.1.cls) (hl0 : ∀ ad, lv_args 0 (zts ad args) = zl ad 0 ls) (hn : ∀ ad, (lg_sl (zts ad args)).length ≤ M.2.2.1) (hd : t = 0 ∨ 7 ≤ d)
    (h : RR M d t W₀ 0 ls [] (zEnd M Q X) X) : Ev M d t W₀ args Q X := by
  intro l D Y ad A hst hAd
  refine vx_ofW (cc := M.2.1) (maxL := M.2.2.1) (ret := M.2.2.2.2) hy rfl ?_
  intro p e s m a below meth c s₁ B hml hh hv
  obtain ⟨rfl, hP, hE, hA⟩ := hv
  have hts := atoms_spec (ws := zwM M) B.pre
  have hown : s.vm.findClass M.1 = some m.cls := by rw [hy2]; exact findClass_of_methodNamed B.named
  have hlocks := B.notSynchronized
  have hx := B.exec
  have hb := B.bytes
  have hC : zC M d t p l (headSpec (zwM M) (zRm d t)).room s m (zts ad args).toArray meth c 0 0 D Y ad A :=
    ⟨⟨hx, hb, hml, hown, hts⟩, hst, hlocks, hh, B.returns, hE, hAd, hA, Nat.le_refl _, Nat.le_refl _, by show 0 + t ≤ t; omega, by show 0 + 6 * t ≤ 6 * t; omega⟩
  have hl := lv_entry (zts ad args) (n := M.2.2.1) (hn ad)
  rw [hl0 ad] at hl
  rw [lg_entry_eq]
  refine h p l e _ s m (zts ad args).toArray below meth c 0 0 _ D Y ad A hC ?_ ?_ s.heap [] _ hP va_S.rf hl
  · intro t' pc' ls' st' W' H' locs' lsA' cells' slots' hk hP' hS' hl' hc' hs'
    rcases hk with ⟨hr, hdg, rfl, hq⟩ | ⟨ty, z, hr, hdg, rfl, hnr, hq⟩ | ⟨C, k, hr, hdg, rfl, hq⟩ | ⟨E, hth, rfl, ht1, hq⟩
    · refine W.widen (k := t) (n := 6 * t) (by omega) (by omega) (vx_ret ?_)
      exact W.vret hx hb (B.returns.trans hr) (fun tt htt hW => ⟨⟨none, W', rfl, hq, by rw [htt]; exact hP'⟩, hS'.F htt⟩) hS'.2.2 hdg hlocks
    · refine W.widen (k := t) (n := 6 * t) (by omega) (by omega) (vx_ret ?_)
      exact W.zret hx hb (B.returns.trans hr) hnr (fun tt htt hW => ⟨⟨some (zI z), W', rfl, hq, by rw [htt]; exact hP'⟩, hS'.F htt⟩) hS'.2.2 hdg hlocks
    · refine W.widen (k := t) (n := 6 * t) (by omega) (by omega) (vx_ret ?_)
      exact W.aret hx hb (B.returns.trans hr) (Or.inl ⟨C, rfl⟩) (Or.inr ⟨ad k, rfl⟩) (fun tt htt hW => ⟨⟨some (.ref k), W', rfl, hq, by rw [htt]; exact hP'⟩, hS'.F htt⟩) hS'.2.2 hdg hlocks
    · have hd7 : 7 ≤ d := by omega
      rcases hth with hth | hth
      · obtain ⟨ik, is, ic, i, text, codes, names, g0, g3, g4, g6, g9, f1, f2, f3, w1, w2, hi, hat⟩ := hth
        obtain ⟨hat1, hat2⟩ := zThrow_hat (M := M) hts hE.2.1 hat
        refine vx_throwS (cls := E) (names := names) (text := text) (sa := ad (1000 + i)) hx hb hst hown f1 f2 (hts _ (List.mem_cons_of_mem _ w1)) (hts _ (List.mem_cons_of_mem _ w2)) (hE.2.2.2.2.1 i _ hi).1 hat1 ?_ hE.2.2.1 hE.2.2.2.1 hS' (hl'.1.trans hml.symm) g0 g3 g4 g6 g9 (fun x hx => (hh x hx).elim) (by show names.length + 3 < d; omega) (by show _ ≤ 40 * d; simp [zts]; omega) (by show cells' + 1 ≤ t; omega) (by show slots' + 6 ≤ 6 * t; omega) hlocks ?_ hS'.2.2 (by omega) (by omega)
        · intro w hw
          rcases List.mem_cons.mp hw with rfl | hw
          · rfl
          · rcases List.mem_cons.mp hw with rfl | hw
            · rfl
            · exact hat2 w hw
        · intro tt hal hsz hkeep
          exact ⟨⟨W', hq, zKept hP' hkeep⟩, ⟨Nat.le_trans hS'.1 hsz, fun q hq1 hq2 => by rw [hkeep q (Nat.lt_of_lt_of_le hq1 hS'.1)]; exact hS'.2.1 q hq1 hq2⟩⟩
      · obtain ⟨ik, is, ic, i, text, codes, names, g0, g3, g4, g6, g9, f1, f2, f3, w1, w2, hi, hat⟩ := hth
        obtain ⟨hat1, hat2⟩ := zThrow_hat (M := M) hts hE.2.1 hat
        refine vx_throwSW (cls := E) (names := names) (text := text) (sa := ad (1000 + i)) hx hb hst hown f1 f2 (hts _ (List.mem_cons_of_mem _ w1)) (hts _ (List.mem_cons_of_mem _ w2)) (hE.2.2.2.2.1 i _ hi).1 hat1 ?_ hE.2.2.1 hE.2.2.2.1 hS' (hl'.1.trans hml.symm) g0 g3 g4 g6 g9 (fun x hx => (hh x hx).elim) (by show names.length + 3 < d; omega) (by show _ ≤ 40 * d; simp [zts]; omega) (by show cells' + 1 ≤ t; omega) (by show slots' + 6 ≤ 6 * t; omega) hlocks ?_ hS'.2.2 (by omega) (by omega)
        · intro w hw
          rcases List.mem_cons.mp hw with rfl | hw
          · rfl
          · rcases List.mem_cons.mp hw with rfl | hw
            · rfl
            · exact hat2 w hw
        · intro tt hal hsz hkeep
          exact ⟨⟨W', hq, zKept hP' hkeep⟩, ⟨Nat.le_trans hS'.1 hsz, fun q hq1 hq2 => by rw [hkeep q (Nat.lt_of_lt_of_le hq1 hS'.1)]; exact hS'.2.1 q hq1 hq2⟩⟩
  · intro E pc' st' W' H' locs' lsA' cells' slots' ce q hXE hP' hS' hc' hs' hce hcv hcl
    exact vx_out (fun x hx => (hh x hx).elim) hlocks hce hcv hcl (fun tt htt hal => ⟨⟨W', hXE, by rw [htt]; exact hP'⟩, hS'.F htt⟩) hS'.2.2 (by omega) (by omega)
theorem zts_app (ad : Nat → Nat) (a b : List Value) : zts ad (a ++ b) = zts ad a ++ zts ad b := by
  induction a with
  | nil => rfl
  | cons v t ih => simp [zts, ih]
theorem zts_rev (ad : Nat → Nat) (a : List Value) : zts ad a.reverse = (zts ad a).reverse := by
  induction a with
  | nil => rfl
  | cons v t ih => simp [zts, zts_app, ih]
theorem zts_len (ad : Nat → Nat) (a : List Value) : (zts ad a).length = a.length := by
  induction a with
  | nil => rfl
  | cons v t ih => simp [zts, ih]
/-- what a call asks of the tables, but its link -/
def zCm (M' : zM) (n : Nat) : Prop := Cond.code M'.2.2.2.1 M'.2.1 M'.2.2.1 M'.2.2.2.2 ∈ zWs ∧ Cond.initialized M'.1 ∈ zWs ∧ M'.2.2.2.1.cls = M'.1 ∧ M'.2.2.2.1.cls ≠ "java/lang/invoke/MethodHandle" ∧ M'.2.2.2.1.cls ≠ "java/lang/invoke/VarHandle" ∧ (parseMethodDescriptor M'.2.2.2.1.desc).map (fun d => d.parameters.length) = some n
def zVm (M' : zM) : Prop := Cond.instanceMethod M'.2.2.2.1 ∈ zWs ∧ Cond.selects M'.1 M'.2.2.2.1 M'.2.2.2.1 ∈ zWs
theorem zBlind {D : va_G} {Y : zY} {ad : Nat → Nat} {A : Nat → Prop} {W₀ : zWd} {args : List Value} : FrameBlind (zEP D Y ad A W₀ args) := fun a U g mk h => ⟨h.1, h.2.1, h.2.2.1.frame, h.2.2.2⟩
theorem zE_warm {D : va_G} {Y : zY} {ad : Nat → Nat} {A : Nat → Prop} {W₀ : zWd} {args : List Value} {s U : State} {H : Heap} {locs : List Loc} (hU : U.heap = H) (hW : s.WarmedH U.vm) (hS : va_S A s.heap H locs) (hE : zE D Y ad A s) (hP : va_P D vwCl (zws Y ad W₀) H) (hA : ∀ q : Nat, s.heap.size ≤ q → A q) : zEP D Y ad A W₀ args (zts ad args).toArray U :=
  ⟨rfl, by rw [hU]; exact hP, zE.move hW hU hS hE, fun q hq => hA q (Nat.le_trans hS.1 (by rw [← hU]; exact hq))⟩
/-- the caller goes on behind a call -/
theorem z_go {M : zM} {d t t' : Nat} {pc : Nat} {ls st st0 : List Value} {K : zK} {X : zX} {p : Program} {l : Launch} {e : Env} {R : Room} {s : State} {m : MethodId} {args : Array Value} {below : List Frame} {meth : Method} {c : Code} {cells slots : Nat} {Q : State → Prop} {D : va_G} {Y : zY} {ad : Nat → Nat} {A : Nat → Prop} {H : Heap} {locs : List Loc} {lsA : Array Slot} {a : Array Value} (htt : t' ≤ t)
    (hC : zC M d t p l R s m args meth c cells slots D Y ad A)
    (hK : ∀ (t' pc' : Nat) (ls' st' : List Value) (W' : zWd) (H' : Heap) (locs' : List Loc) (lsA' : Array Slot) (cells' slots' : Nat), K t' pc' ls' st' W' → va_P D vwCl (zws Y ad W') H' → va_S A s.heap H' locs' → lv_has lsA' M.2.2.1 (zl ad 0 ls') → cells' + t' ≤ cells + t → slots' + 6 * t' ≤ slots + 6 * t → W p l e R s m args below meth c H' locs' cells' slots' Q (F0 m pc' lsA' (zts ad st')))
    (hX : ∀ (E : String) (pc' : Nat) (st' : List Value) (W' : zWd) (H' : Heap) (locs' : List Loc) (lsA' : Array Slot) (cells' slots' : Nat) (ce : Cell) (q : Addr), X E W' → va_P D vwCl (zws Y ad W') H' → va_S A s.heap H' locs' → cells' ≤ cells + t → slots' ≤ slots + 6 * t → H'[q]? = some ce → ce.vm = .none → s.vm.findClass E = some ce.cls → vx_W p l e R s m args below meth c H' locs' cells' slots' Q (F0 m pc' lsA' st') q)
    (hS : va_S A s.heap H locs) (hl : lv_has lsA M.2.2.1 (zl ad 0 ls))
    (hr : vx_Run p l e R s m args below meth c H locs cells slots t' (6 * t') (F0 m pc lsA st0) (zts ad st) (zEQ D Y ad A (fun r W' => RR M d (t - t') W' (pc + 3) ls (r.toList ++ st) K X) a) (zEX D Y ad A X) A) :
    W p l e R s m args below meth c H locs cells slots Q (F0 m pc lsA st0) := by
  intro T hT X0
  rcases hr T hT X0 with ⟨v, st₀, t9, T', L, h0, X', hL, e1, e2, ⟨⟨r, W', hv9, hq, hb9⟩, hF⟩, st9⟩ | ⟨q, st₀, t9, T', L, E, ce, h0, X', hL, e1, e2, ⟨⟨W', hXE, hb9⟩, hF⟩, hce, hcv, hcl, st9⟩
  · cases hv9
    obtain ⟨k1, k2, k3⟩ := vx_keep h0 e1 hS (fun q _ h => h) (fun q h => h) hL hF
    obtain ⟨c1, c2, c3, c4, c5, c6, c7, c8, c9, c10, c11, c12⟩ := id hC
    have h9 := hq p l e R s m args below meth c (cells + t') (slots + 6 * t') Q D Y ad A ⟨c1, c2, c3, c4, c5, c6, c7, c8, c9, c10, by omega, by omega⟩ (fun t2 pc' ls' st' W' H' locs' lsA' cells' slots' k1 k2 k3 k4 k5 k6 => hK t2 pc' ls' st' W' H' locs' lsA' cells' slots' k1 k2 k3 k4 (by omega) (by omega)) (fun E pc' st' W' H' locs' lsA' cells' slots' ce q k1 k2 k3 k4 k5 => hX E pc' st' W' H' locs' lsA' cells' slots' ce q k1 k2 k3 (by omega) (by omega)) T'.heap (locs ++ L) lsA (by rw [e1]; exact hb9) k3 hl
    have e9 : zts ad (r.toList ++ st) = (r.map (zt ad)).toList ++ zts ad st := by cases r <;> rfl
    rw [e9] at h9
    obtain ⟨t2, a1, b1⟩ := h9 T' rfl X'
    exact ⟨t2, st9 t2 a1, b1⟩
  · obtain ⟨k1, k2, k3⟩ := vx_keep h0 e1 hS (fun q _ h => h) (fun q h => h) hL hF
    obtain ⟨t2, a1, b1⟩ := hX E pc (zts ad st) W' T'.heap (locs ++ L) lsA (cells + t') (slots + 6 * t') ce q hXE (by rw [e1]; exact hb9) k3 (by omega) (by omega) (by rw [e1]; exact hce) hcv hcl T' rfl X'
    exact ⟨t2, st9.trans a1, b1⟩
section ZD
variable {M M' : zM} {d d' t t' n : Nat} {W₀ : zWd} {pc : Nat} {ls st : List Value} {K : zK} {X : zX} {index ci k : Nat} {As : List Value}
theorem z_callB {R : Room} {s : State} {args : Array Value} (hts : ∀ w ∈ zwM M, w.before args s = true) (hcm : zCm M' n) (hl : Cond.methodLink M.1 index M'.2.2.2.1 ∈ zWs) (h1 : d' + 1 ≤ R.frames) (h2 : 8 + (M'.2.2.1 + 11) + 40 * d' ≤ R.locals) : CallB R s args M.1 index M'.2.2.2.1 M'.2.1 M'.2.2.1 M'.2.2.2.2 (zwM M') (zRm d' t') t' (6 * t') n := by
  obtain ⟨w1, w2, w3, w4, w5, w6⟩ := hcm
  exact callB_of n hts (zwM_good M M' w1) rfl rfl rfl (by rw [w3]; exact hts _ (List.mem_cons_of_mem _ w2)) (hts _ (List.mem_cons_of_mem _ hl)) ⟨w4, w5, w6⟩ ⟨h1, h2⟩
theorem rr_inv {T : u_T} {N : Nat} (hd : decode M.2.1 pc = .ok (.invokevirtual index, 3)) (hl : Cond.methodLink M.1 index M'.2.2.2.1 ∈ zWs) (hcm : zCm M' n) (hvm : zVm M') (hk : zk k = (ci, 0)) (hci : ci < 8) (hcl : vwCl[ci]? = some (M'.1, T, N)) (hdd : d' + 1 ≤ d) (htt : t' ≤ t) (hlo : M'.2.2.1 ≤ 21) (hst : (st.map fun v => v.category).sum ≤ 8) (hn : As.length = n)
    (hE : Ev M' d' t' W₀ (.ref k :: As) (fun r W' => RR M d (t - t') W' (pc + 3) ls (r.toList ++ st) K X) X) : RR M d t W₀ pc ls (As.reverse ++ .ref k :: st) K X := by
  intro p l e R s m args below meth c cells slots Q D Y ad A hC hK hX H locs lsA hP hS hlv
  obtain ⟨⟨h1, h2, h3, h4, h5⟩, c2, c3, c4, c5, c6, c7, c8, c9, c10, c11, c12⟩ := id hC
  have hk9 := zk_lt hk (by omega)
  have he := zws_at Y ad W₀ hk9
  rw [zc_obj Y ad W₀ hk hci] at he
  refine z_go htt hC hK hX hS hlv (a := (Value.ref (ad k) :: zts ad As).toArray) (st := st) ?_
  refine vx_runV (C := M'.1) (n := n) (bytes := M'.2.1) (maxL := M'.2.2.1) (ret := M'.2.2.2.2) (As := zts ad As) (b := ad k) ⟨h1, h2, h3, h4, h5⟩ (hE l D Y ad A c2 c7) ⟨z_callB h5 hcm hl (by omega) (by omega), h5 _ (List.mem_cons_of_mem _ hvm.1), h5 _ (List.mem_cons_of_mem _ hvm.2)⟩ ⟨zBlind, va_recv c6.1 hP hcl he, fun U hU hW => ?_⟩ rfl (by rw [zts_len]; exact hn) hlv.1 ?_ (lv_room (by rw [zts_cat]; exact hst)) hd ⟨by omega, by omega⟩
  · exact zE_warm (args := .ref k :: As) hU hW hS c6 hP c8
  · show zts ad (As.reverse ++ .ref k :: st) = _
    rw [zts_app, zts_rev]; rfl
theorem rr_sta (hd : decode M.2.1 pc = .ok (.invokestatic index, 3)) (hl : Cond.methodLink M.1 index M'.2.2.2.1 ∈ zWs) (hcm : zCm M' n) (hvm : Cond.static M'.2.2.2.1 ∈ zWs) (hdd : d' + 1 ≤ d) (htt : t' ≤ t) (hlo : M'.2.2.1 ≤ 21) (hst : (st.map fun v => v.category).sum ≤ 8) (hn : As.length = n)
    (hE : Ev M' d' t' W₀ As (fun r W' => RR M d (t - t') W' (pc + 3) ls (r.toList ++ st) K X) X) : RR M d t W₀ pc ls (As.reverse ++ st) K X := by
  intro p l e R s m args below meth c cells slots Q D Y ad A hC hK hX H locs lsA hP hS hlv
  obtain ⟨⟨h1, h2, h3, h4, h5⟩, c2, c3, c4, c5, c6, c7, c8, c9, c10, c11, c12⟩ := id hC
  refine z_go htt hC hK hX hS hlv (a := (zts ad As).toArray) (st := st) ?_
  refine vx_runS (n := n) (bytes := M'.2.1) (maxL := M'.2.2.1) (ret := M'.2.2.2.2) (As := zts ad As) ⟨h1, h2, h3, h4, h5⟩ (hE l D Y ad A c2 c7) ⟨z_callB h5 hcm hl (by omega) (by omega), h5 _ (List.mem_cons_of_mem _ hvm)⟩ ⟨zBlind, fun U hU hW => ?_⟩ rfl (by rw [zts_len]; exact hn) hlv.1 ?_ (lv_room (by rw [zts_cat]; exact hst)) hd ⟨by omega, by omega⟩
  · exact zE_warm (args := As) hU hW hS c6 hP c8
  · show zts ad (As.reverse ++ st) = _
    rw [zts_app, zts_rev]
theorem rr_inv0 {T : u_T} {N : Nat} (hd : decode M.2.1 pc = .ok (.invokevirtual index, 3)) (hl : Cond.methodLink M.1 index M'.2.2.2.1 ∈ zWs) (hcm : zCm M' n) (hvm : zVm M') (hk : zk k = (ci, 0)) (hci : ci < 8) (hcl : vwCl[ci]? = some (M'.1, T, N)) (hdd : d' + 1 ≤ d) (hlo : M'.2.2.1 ≤ 21) (hst : (st.map fun v => v.category).sum ≤ 8) (hn : As.length = n)
    (hE : Ev M' d' 0 W₀ (.ref k :: As) (fun r W' => RR M d t W' (pc + 3) ls (r.toList ++ st) K X) X) : RR M d t W₀ pc ls (As.reverse ++ .ref k :: st) K X :=
  rr_inv hd hl hcm hvm hk hci hcl hdd (Nat.zero_le _) hlo hst hn hE
theorem rr_sta0 (hd : decode M.2.1 pc = .ok (.invokestatic index, 3)) (hl : Cond.methodLink M.1 index M'.2.2.2.1 ∈ zWs) (hcm : zCm M' n) (hvm : Cond.static M'.2.2.2.1 ∈ zWs) (hdd : d' + 1 ≤ d) (hlo : M'.2.2.1 ≤ 21) (hst : (st.map fun v => v.category).sum ≤ 8) (hn : As.length = n)
    (hE : Ev M' d' 0 W₀ As (fun r W' => RR M d t W' (pc + 3) ls (r.toList ++ st) K X) X) : RR M d t W₀ pc ls (As.reverse ++ st) K X :=
  rr_sta hd hl hcm hvm hdd (Nat.zero_le _) hlo hst hn hE
/-- a contract without throws, as the library's Met -/
theorem z_met {l : Launch} {D : va_G} {Y : zY} {ad : Nat → Nat} {A : Nat → Prop} {args : List Value} {Q : Option Value → zWd → Prop} {mc ms : Nat} (h : vx_Met l M'.2.2.2.1 (zwM M') (zRm d' t') (zEP D Y ad A W₀ args) (zEQ D Y ad A Q) (zEX D Y ad A (fun _ _ => False)) mc ms A) : Met l M'.2.2.2.1 (zwM M') (zRm d' t') (zEP D Y ad A W₀ args) (zEQ D Y ad A Q) mc ms A := by
  intro p e h1 h2 h3 s m args below h4 h5 h6 h7
  obtain ⟨n9, o, g1, g2, g3, g4⟩ := h p e h1 h2 h3 s m args below h4 h5 h6 h7
  refine ⟨n9, o, g1, g2, g3, ?_⟩
  rcases g4 with g4 | ⟨q, -, E, ce, L, ⟨⟨W', hf, -⟩, -⟩, -⟩
  · exact g4
  · exact hf.elim
theorem z_run {p : Program} {l : Launch} {e : Env} {R : Room} {s : State} {m : MethodId} {args : Array Value} {below : List Frame} {meth : Method} {c : Code} {H : Heap} {locs : List Loc} {cells slots mc ms : Nat} {g : JFrame} {rest : List Value} {Qa : State → Outcome → State → Prop} {XC : String → State → State → Prop} {free : Addr → Prop} (h : va_Run p l e R s m args below meth c H locs cells slots mc ms g rest Qa free) : vx_Run p l e R s m args below meth c H locs cells slots mc ms g rest Qa XC free := by
  intro T hT X0
  exact Or.inl (h T hT X0)
theorem rr_invN {T : u_T} {N : Nat} {host : String} (hd : decode M.2.1 pc = .ok (.invokevirtual index, 3)) (hl : Cond.methodLinkNest M.1 index M'.2.2.2.1 host ∈ zNst) (hcm : zCm M' n) (hvm : zVm M') (hk : zk k = (ci, 0)) (hci : ci < 8) (hcl : vwCl[ci]? = some (M'.1, T, N)) (hdd : d' + 1 ≤ d) (hlo : M'.2.2.1 ≤ 21) (hst : (st.map fun v => v.category).sum ≤ 8) (hn : As.length = n)
    (hE : Ev M' d' 0 W₀ (.ref k :: As) (fun r W' => RR M d t W' (pc + 3) ls (r.toList ++ st) K X) (fun _ _ => False)) : RR M d t W₀ pc ls (As.reverse ++ .ref k :: st) K X := by
  intro p l e R s m args below meth c cells slots Q D Y ad A hC hK hX H locs lsA hP hS hlv
  obtain ⟨⟨h1, h2, h3, h4, h5⟩, c2, c3, c4, c5, c6, c7, c8, c9, c10, c11, c12⟩ := id hC
  have hk9 := zk_lt hk (by omega)
  have he := zws_at Y ad W₀ hk9
  rw [zc_obj Y ad W₀ hk hci] at he
  obtain ⟨w1, w2, w3, w4, w5, w6⟩ := hcm
  refine z_go (t' := 0) (Nat.zero_le _) hC hK hX hS hlv (a := (Value.ref (ad k) :: zts ad As).toArray) (st := st) (z_run ?_)
  refine va_runVN (C := M'.1) (n := n) (bytes := M'.2.1) (maxL := M'.2.2.1) (ret := M'.2.2.2.2) (As := zts ad As) (b := ad k) ⟨h1, h2, h3, h4, h5⟩ (z_met (hE l D Y ad A c2 c7)) ⟨va_cnB n h5 (zwM_good M M' w1) rfl rfl rfl (c6.2.1 _ hl) (by rw [w3]; exact h5 _ (List.mem_cons_of_mem _ w2)) ⟨w4, w5, w6⟩ ⟨by show d' + 1 ≤ _; omega, by show 8 + (_ + 11) + 40 * d' ≤ _; omega⟩, h5 _ (List.mem_cons_of_mem _ hvm.1), h5 _ (List.mem_cons_of_mem _ hvm.2)⟩ ⟨zBlind, va_recv c6.1 hP hcl he, fun U hU hW => ?_⟩ rfl (by rw [zts_len]; exact hn) hlv.1 ?_ (lv_room (by rw [zts_cat]; exact hst)) hd ⟨by omega, by omega⟩
  · exact zE_warm (args := .ref k :: As) hU hW hS c6 hP c8
  · show zts ad (As.reverse ++ .ref k :: st) = _
    rw [zts_app, zts_rev]; rfl
theorem rr_staN {host : String} (hd : decode M.2.1 pc = .ok (.invokestatic index, 3)) (hl : Cond.methodLinkNest M.1 index M'.2.2.2.1 host ∈ zNst) (hcm : zCm M' n) (hvm : Cond.static M'.2.2.2.1 ∈ zWs) (hdd : d' + 1 ≤ d) (hlo : M'.2.2.1 ≤ 21) (hst : (st.map fun v => v.category).sum ≤ 8) (hn : As.length = n)
    (hE : Ev M' d' 0 W₀ As (fun r W' => RR M d t W' (pc + 3) ls (r.toList ++ st) K X) (fun _ _ => False)) : RR M d t W₀ pc ls (As.reverse ++ st) K X := by
  intro p l e R s m args below meth c cells slots Q D Y ad A hC hK hX H locs lsA hP hS hlv
  obtain ⟨⟨h1, h2, h3, h4, h5⟩, c2, c3, c4, c5, c6, c7, c8, c9, c10, c11, c12⟩ := id hC
  obtain ⟨w1, w2, w3, w4, w5, w6⟩ := hcm
  refine z_go (t' := 0) (Nat.zero_le _) hC hK hX hS hlv (a := (zts ad As).toArray) (st := st) (z_run ?_)
  refine va_runSN (n := n) (bytes := M'.2.1) (maxL := M'.2.2.1) (ret := M'.2.2.2.2) (As := zts ad As) ⟨h1, h2, h3, h4, h5⟩ (z_met (hE l D Y ad A c2 c7)) ⟨va_cnB n h5 (zwM_good M M' w1) rfl rfl rfl (c6.2.1 _ hl) (by rw [w3]; exact h5 _ (List.mem_cons_of_mem _ w2)) ⟨w4, w5, w6⟩ ⟨by show d' + 1 ≤ _; omega, by show 8 + (_ + 11) + 40 * d' ≤ _; omega⟩, h5 _ (List.mem_cons_of_mem _ hvm), trivial⟩ ⟨zBlind, fun U hU hW => ?_⟩ rfl (by rw [zts_len]; exact hn) hlv.1 ?_ (lv_room (by rw [zts_cat]; exact hst)) hd ⟨by omega, by omega⟩
  · exact zE_warm (args := As) hU hW hS c6 hP c8
  · show zts ad (As.reverse ++ st) = _
    rw [zts_app, zts_rev]
end ZD
