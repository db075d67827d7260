/-! the law's helpers: a body with a table of handlers -/
def zwH (M : zM) (hh : List (Nat × Nat × Nat × Nat)) : List Cond := Cond.codeWith M.2.2.2.1 M.2.1 M.2.2.1 M.2.2.2.2 hh :: zWs
theorem zwH_good (M M' : zM) (hh : List (Nat × Nat × Nat × Nat)) (h : Cond.code M'.2.2.2.1 M'.2.1 M'.2.2.1 M'.2.2.2.2 ∈ zWs) : GoodIn (zwH M hh) (zwM M') := by
  intro w hw
  have h9 : w ∈ zWs := by
    rcases List.mem_cons.mp hw with rfl | h1
    · exact h
    · exact h1
  exact ⟨List.mem_cons_of_mem _ h9, good_of_word (zWs_good h9)⟩
def zNc (U : State) : Prop := va_Nc "java/lang/IllegalArgumentException" "java/lang/IndexOutOfBoundsException" U ∧ va_Nc "java/lang/IllegalStateException" "java/lang/IndexOutOfBoundsException" U
theorem zNc.moved {u U : State} (hvm : u.vm.Alike U.vm) (h : zNc u) : zNc U := ⟨va_Nc.moved hvm h.1, va_Nc.moved hvm h.2⟩
def zCH (M : zM) (hh : List (Nat × Nat × Nat × Nat)) (d t : Nat) (p : Program) (l : Launch) (R : Room) (s : State) (m : MethodId) (args : Array Value) (meth : Method) (c : Code) (cells slots : Nat) (D : va_G) (Y : zY) (ad : Nat → Nat) (A : Nat → Prop) : Prop :=
  CallFix p m c M.2.1 M.2.2.1 s args (zwH M hh) M.1 ∧ l.stackTraces = false ∧ meth.locks = false ∧ c.exceptionTable.toList = tableOf hh ∧ meth.sig.returnType = M.2.2.2.2 ∧ zE D Y ad A s ∧ zAd ad A ∧ (∀ q : Nat, s.heap.size ≤ q → A q) ∧ d ≤ R.frames ∧ 40 * d ≤ R.locals ∧ cells + t ≤ R.cells ∧ slots + 6 * t ≤ R.slots ∧ zNc s
/-- from here the body comes to its ireturn, with z, as Q9 says -/
def HH (M : zM) (hh : List (Nat × Nat × Nat × Nat)) (d t : Nat) (W₀ : zWd) (pc : Nat) (ls st : List Value) (Q9 : Int → zWd → Prop) : Prop :=
  ∀ (p : Program) (l : Launch) (e : Env) (R : Room) (s : State) (m : MethodId) (args : Array Value) (below : List Frame) (meth : Method) (c : Code) (cells slots : Nat) (Q : State → Prop) (D : va_G) (Y : zY) (ad : Nat → Nat) (A : Nat → Prop),
    zCH M hh d t p l R s m args meth c cells slots D Y ad A →
    (∀ (z : Int) (pc' : Nat) (W' : zWd) (H' : Heap) (locs' : List Loc) (lsA' : Array Slot) (cells' slots' : Nat), decode M.2.1 pc' = .ok (.ireturn, 1) → Q9 z W' → va_P D vwCl (zws Y ad W') H' → va_S A s.heap H' locs' → cells' ≤ cells + t → slots' ≤ slots + 6 * t → W p l e R s m args below meth c H' locs' cells' slots' Q (F0 m pc' lsA' [zI z])) →
    ∀ (H : Heap) (locs : List Loc) (lsA : Array Slot), va_P D vwCl (zws Y ad W₀) H → va_S A s.heap H locs → lv_has lsA M.2.2.1 (zl ad 0 ls) → W p l e R s m args below meth c H locs cells slots Q (F0 m pc lsA (zts ad st))
section ZHH
variable {M : zM} {hh : List (Nat × Nat × Nat × Nat)} {d t : Nat} {W₀ : zWd} {pc : Nat} {ls st : List Value} {Q9 : Int → zWd → Prop}
theorem hh_iconst {n : Int} (hd : decode M.2.1 pc = .ok (.iconst n, 1)) (k : HH M hh d t W₀ (pc + 1) ls (zI n :: st) Q9) : HH M hh d t W₀ pc ls st Q9 := by
  intro p l e R s m args below meth c cells slots Q D Y ad A hC hK H locs lsA hP hS hl
  exact lv_iconst hC.1.1 hC.1.2.1 hd rfl (k p l e R s m args below meth c cells slots Q D Y ad A hC hK H locs lsA hP hS hl)
theorem hh_iload_n {k : Fin 4} {z : Int} (hd : decode M.2.1 pc = .ok (.iload_n k, 1)) (hg : zg ls k = zI z) (kk : HH M hh d t W₀ (pc + 1) ls (zI z :: st) Q9) : HH M hh d t W₀ pc ls st Q9 := by
  intro p l e R s m args below meth c cells slots Q D Y ad A hC hK H locs lsA hP hS hl
  exact lv_iload_n hC.1.1 hC.1.2.1 hd rfl (zl_at hl hg) (kk p l e R s m args below meth c cells slots Q D Y ad A hC hK H locs lsA hP hS hl)
theorem hh_iload {i : Nat} {z : Int} (hd : decode M.2.1 pc = .ok (.iload i, 2)) (hg : zg ls i = zI z) (kk : HH M hh d t W₀ (pc + 2) ls (zI z :: st) Q9) : HH M hh d t W₀ pc ls st Q9 := by
  intro p l e R s m args below meth c cells slots Q D Y ad A hC hK H locs lsA hP hS hl
  exact lv_iload hC.1.1 hC.1.2.1 hd (zl_at hl hg) (kk p l e R s m args below meth c cells slots Q D Y ad A hC hK H locs lsA hP hS hl)
theorem hh_aload_n {k : Fin 4} {r : Nat} (hd : decode M.2.1 pc = .ok (.aload_n k, 1)) (hg : zg ls k = .ref r) (kk : HH M hh d t W₀ (pc + 1) ls (.ref r :: st) Q9) : HH M hh d t W₀ pc ls st Q9 := by
  intro p l e R s m args below meth c cells slots Q D Y ad A hC hK H locs lsA hP hS hl
  exact lv_aload_n hC.1.1 hC.1.2.1 hd rfl (zl_atR hl hg) (kk p l e R s m args below meth c cells slots Q D Y ad A hC hK H locs lsA hP hS hl)
theorem hh_aload {i : Nat} {r : Nat} (hd : decode M.2.1 pc = .ok (.aload i, 2)) (hg : zg ls i = .ref r) (kk : HH M hh d t W₀ (pc + 2) ls (.ref r :: st) Q9) : HH M hh d t W₀ pc ls st Q9 := by
  intro p l e R s m args below meth c cells slots Q D Y ad A hC hK H locs lsA hP hS hl
  exact lv_aload hC.1.1 hC.1.2.1 hd (zl_atR hl hg) (kk p l e R s m args below meth c cells slots Q D Y ad A hC hK H locs lsA hP hS hl)
theorem hh_goto {off : Int} {tgt : Nat} (hd : decode M.2.1 pc = .ok (.goto off, 3)) (ht : (pc : Int) + off = (tgt : Int)) (k : HH M hh d t W₀ tgt ls st Q9) : HH M hh d t W₀ pc ls st Q9 := by
  intro p l e R s m args below meth c cells slots Q D Y ad A hC hK H locs lsA hP hS hl
  exact lv_goto hC.1.1 hC.1.2.1 hd ht (k p l e R s m args below meth c cells slots Q D Y ad A hC hK H locs lsA hP hS hl)
/-- i2l; lastore of out's one place -/
theorem hh_out {z : Int} (h1 : decode M.2.1 pc = .ok (.i2l, 1)) (h2 : decode M.2.1 (pc + 1) = .ok (.lastore, 1)) (k : HH M hh d t (zup W₀ 128 0 z) (pc + 2) ls st Q9) : HH M hh d t W₀ pc ls (zI z :: zI 0 :: .ref 128 :: st) Q9 := by
  intro p l e R s m args below meth c cells slots Q D Y ad A hC hK H locs lsA hP hS hl
  obtain ⟨⟨g1, g2, g3, g4, g5⟩, -, -, -, -, ⟨h6, h7, -⟩, hAd, -⟩ := id hC
  have he := zws_at Y ad W₀ (show 128 < 129 by decide)
  have hk : zk 128 = (14, 1) := rfl
  rw [zc_long Y ad W₀ hk] at he
  have hset := zws_set Y ad W₀ (zup W₀ 128 0 z) (show 128 < 129 by decide) _ (zc_putL Y ad W₀ hk (i := 0) (by decide) (by decide) (v := z)) zup_other
  refine lv_i2l g1 g2 h1 rfl ?_
  refine va_last g1 g2 h6 hP (hAd.D Y W₀) hS 128 4 he rfl (z_in (by decide) (by decide) (by decide)) h2 (fun H1 locs1 hP1 _ hS1 => ?_)
  rw [hset] at hP1
  exact k p l e R s m args below meth c cells slots Q D Y ad A hC hK H1 locs1 lsA hP1 hS1 hl
theorem hh_reti {z : Int} (hd : decode M.2.1 pc = .ok (.ireturn, 1)) (h : Q9 z W₀) : HH M hh d t W₀ pc ls [zI z] Q9 := by
  intro p l e R s m args below meth c cells slots Q D Y ad A hC hK H locs lsA hP hS hl
  exact hK z pc W₀ H locs lsA cells slots hd h hP hS (by omega) (by omega)
/-- caught: the place is stored away, a number goes back -/
def zCat (M : zM) (hh : List (Nat × Nat × Nat × Nat)) (pc : Nat) (E : String) (P : Int → Prop) : Prop := ∃ (pre : List (Nat × Nat × Nat × Nat)) (x : Nat × Nat × Nat × Nat) (suf : List (Nat × Nat × Nat × Nat)) (nm : String) (v : Int) (len : Nat), hh = pre ++ x :: suf ∧
  (∀ y ∈ pre, y.2.2.2 ≠ 0 ∧ Cond.classLink M.1 y.2.2.2 "java/lang/IndexOutOfBoundsException" ∈ zWs ∧ (E = "java/lang/IllegalArgumentException" ∨ E = "java/lang/IllegalStateException")) ∧ x.1 ≤ pc ∧ pc < x.2.1 ∧ x.2.2.2 ≠ 0 ∧ Cond.classLink M.1 x.2.2.2 nm ∈ zWs ∧ Cond.castable E nm ∈ zNst ∧
  ((∃ k : Fin 4, len = 1 ∧ decode M.2.1 x.2.2.1 = .ok (.astore_n k, 1) ∧ (k : Nat) < M.2.2.1) ∨ (∃ k : Nat, len = 2 ∧ decode M.2.1 x.2.2.1 = .ok (.astore k, 2) ∧ k < M.2.2.1)) ∧ decode M.2.1 (x.2.2.1 + len) = .ok (.iconst v, 1) ∧ decode M.2.1 (x.2.2.1 + len + 1) = .ok (.ireturn, 1) ∧ P v
theorem hh_inv {M' : zM} {d' t' n index ci k : Nat} {As : List Value} {T : u_T} {N : Nat} (hd : decode M.2.1 pc = .ok (.invokevirtual index, 3)) (hl : Cond.methodLink M.1 index M'.2.2.2.1 ∈ zWs) (hcm : zCm M' n) (hvm : zVm M') (hk : zk k = (ci, 0)) (hci : ci < 8) (hcl : vwCl[ci]? = some (M'.1, T, N)) (hdd : d' + 1 ≤ d) (htt : t' ≤ t) (hlo : M'.2.2.1 ≤ 21) (hst : (st.map fun v => v.category).sum ≤ 8) (hn : As.length = n)
    (hE : Ev M' d' t' W₀ (.ref k :: As) (fun r W' => HH M hh d (t - t') W' (pc + 3) ls (r.toList ++ st) Q9) (fun E W' => zCat M hh pc E (fun v => Q9 v W'))) : HH M hh d t W₀ pc ls (As.reverse ++ .ref k :: st) Q9 := by
  intro p l e R s m args below meth c cells slots Q D Y ad A hC hK H locs lsA hP hS hlv
  obtain ⟨⟨h1, h2, h3, h4, h5⟩, c2, c3, c4, c5, c6, c7, c8, c9, c10, c11, c12, c13⟩ := id hC
  have hk9 := zk_lt hk (by omega)
  have he := zws_at Y ad W₀ hk9
  rw [zc_obj Y ad W₀ hk hci] at he
  have cb : CallB R s args M.1 index M'.2.2.2.1 M'.2.1 M'.2.2.1 M'.2.2.2.2 (zwM M') (zRm d' t') t' (6 * t') n := by
    obtain ⟨w1, w2, w3, w4, w5, w6⟩ := hcm
    exact callB_of n h5 (zwH_good M M' hh w1) rfl rfl rfl (by rw [w3]; exact h5 _ (List.mem_cons_of_mem _ w2)) (h5 _ (List.mem_cons_of_mem _ hl)) ⟨w4, w5, w6⟩ ⟨by show d' + 1 ≤ R.frames; omega, by show 8 + (M'.2.2.1 + 11) + 40 * d' ≤ R.locals; omega⟩
  have hr : vx_Run p l e R s m args below meth c H locs cells slots t' (6 * t') (F0 m pc lsA (zts ad (As.reverse ++ .ref k :: st))) (zts ad st) (zEQ D Y ad A (fun r W' => HH M hh d (t - t') W' (pc + 3) ls (r.toList ++ st) Q9) (Value.ref (ad k) :: zts ad As).toArray) (zEX D Y ad A (fun E W' => zCat M hh pc E (fun v => Q9 v W'))) A := by
    refine vx_runV (C := M'.1) (n := n) (bytes := M'.2.1) (maxL := M'.2.2.1) (ret := M'.2.2.2.2) (As := zts ad As) (b := ad k) ⟨h1, h2, h3, h4, h5⟩ (hE l D Y ad A c2 c7) ⟨cb, h5 _ (List.mem_cons_of_mem _ hvm.1), h5 _ (List.mem_cons_of_mem _ hvm.2)⟩ ⟨zBlind, va_recv c6.1 hP hcl he, fun U hU hW => ?_⟩ rfl (by rw [zts_len]; exact hn) hlv.1 ?_ (lv_room (by rw [zts_cat]; exact hst)) hd ⟨by omega, by omega⟩
    · exact zE_warm (args := .ref k :: As) hU hW hS c6 hP c8
    · show zts ad (As.reverse ++ .ref k :: st) = _
      rw [zts_app, zts_rev]; rfl
  intro T hT X0
  rcases hr T hT X0 with ⟨v, st₀, t9, T', L, h0, X', hL, e1, e2, ⟨⟨r, W', hv9, hq, hb9⟩, hF⟩, st9⟩ | ⟨q, st₀, t9, T', L, E, ce, h0, X', hL, e1, e2, ⟨⟨W', hXE, hb9⟩, hF⟩, hce, hcv, hcl9, st9⟩
  · cases hv9
    obtain ⟨k1, k2, k3⟩ := vx_keep h0 e1 hS (fun q _ h => h) (fun q h => h) hL hF
    have h9 := hq p l e R s m args below meth c (cells + t') (slots + 6 * t') Q D Y ad A ⟨⟨h1, h2, h3, h4, h5⟩, c2, c3, c4, c5, c6, c7, c8, c9, c10, by omega, by omega, c13⟩ (fun z pc' W' H' locs' lsA' cells' slots' k1 k2 k3 k4 k5 k6 => hK z pc' W' H' locs' lsA' cells' slots' k1 k2 k3 k4 (by omega) (by omega)) T'.heap (locs ++ L) lsA (by rw [e1]; exact hb9) k3 hlv
    have e9 : zts ad (r.toList ++ st) = (r.map (zt ad)).toList ++ zts ad st := by cases r <;> rfl
    rw [e9] at h9
    obtain ⟨t2, a1, b1⟩ := h9 T' rfl X'
    exact ⟨t2, st9 t2 a1, b1⟩
  · obtain ⟨k1, k2, k3⟩ := vx_keep h0 e1 hS (fun q _ h => h) (fun q h => h) hL hF
    obtain ⟨pre, x, suf, nm, v, len, z1, z2, z3, z4, z5, z6, z7, z8, z9, z10, z11⟩ := hXE
    have hend : W p l e R s m args below meth c T'.heap (locs ++ L) (cells + t') (slots + 6 * t') Q (F0 m x.2.2.1 lsA [.ref q]) := by
      have fin : ∀ lsA' : Array Slot, W p l e R s m args below meth c T'.heap (locs ++ L) (cells + t') (slots + 6 * t') Q (F0 m (x.2.2.1 + len) lsA' []) := fun lsA' =>
        lv_iconst h1 h2 z9 rfl (hK v _ W' T'.heap (locs ++ L) lsA' (cells + t') (slots + 6 * t') z10 z11 (by rw [e1]; exact hb9) k3 (by omega) (by omega))
      rcases z8 with ⟨k, rfl, y1, y2⟩ | ⟨k, rfl, y1, y2⟩
      · exact lv_astore_n h1 h2 y1 rfl hlv y2 rfl (fun ls' _ => fin ls')
      · exact lv_astore h1 h2 y1 hlv y2 rfl (fun ls' _ => fin ls')
    have hcat := vx_catch (H := T'.heap) (locs := locs ++ L) (cells := cells + t') (slots := slots + 6 * t') (Q := Q) (pc := pc) (ls := lsA) (rest := zts ad st) (own := M.1) (name := nm) (E := E) (ce := ce) (q := q) h4 (tableOf pre) { startPc := x.1, endPc := x.2.1, handlerPc := x.2.2.1, catchType := x.2.2.2 } (tableOf suf) (by rw [c4, z1]; simp [tableOf]) (fun z hz => by
        obtain ⟨y, hy, rfl⟩ := List.mem_map.mp hz
        obtain ⟨g1, g2, g3⟩ := z2 y hy
        refine Or.inr ⟨g1, _, h5 _ (List.mem_cons_of_mem _ g2), ?_⟩
        rcases g3 with rfl | rfl
        · exact c13.1
        · exact c13.2) (by show (decide _ && decide _) = true; rw [decide_eq_true z3, decide_eq_true z4]; rfl) z5 (h5 _ (List.mem_cons_of_mem _ z6)) (va_Nw.use (zNst_on z7) (c6.2.1 _ z7)) (by rw [e1]; exact hce) hcv hcl9 hend
    obtain ⟨t2, a1, b1⟩ := hcat T' rfl X'
    exact ⟨t2, st9.trans a1, b1⟩
end ZHH
def zEPH (D : va_G) (Y : zY) (ad : Nat → Nat) (A : Nat → Prop) (W₀ : zWd) (args : List Value) : Array Value → State → Prop := va_Pc (zts ad args) (fun U => va_P D vwCl (zws Y ad W₀) U.heap ∧ zE D Y ad A U ∧ (∀ q : Nat, U.heap.size ≤ q → A q) ∧ zNc U)
theorem zBlindH {D : va_G} {Y : zY} {ad : Nat → Nat} {A : Nat → Prop} {W₀ : zWd} {args : List Value} : FrameBlind (zEPH D Y ad A W₀ args) := fun a U g mk h => ⟨h.1, h.2.1, h.2.2.1.frame, h.2.2.2.1, h.2.2.2.2.moved (State.WarmedH.refl U).alike⟩
/-- a helper's contract -/
def EvH (M : zM) (hh : List (Nat × Nat × Nat × Nat)) (d t : Nat) (W₀ : zWd) (args : List Value) (Q : Option Value → zWd → Prop) : Prop :=
  ∀ (l : Launch) (D : va_G) (Y : zY) (ad : Nat → Nat) (A : Nat → Prop), l.stackTraces = false → zAd ad A → Met l M.2.2.2.1 (zwH M hh) (zRm d t) (zEPH D Y ad A W₀ args) (zEQ D Y ad A Q) t (6 * t) A
theorem ev_ofH {M : zM} {hh : List (Nat × Nat × Nat × Nat)} {d t : Nat} {W₀ : zWd} {args ls : List Value} {Q : Option Value → zWd → Prop} (hy : plainName M.2.2.2.1.cls = true) (hy2 : M.1 = M.2.2.2.1.cls) (hr : M.2.2.2.2 = some .int) (hl0 : ∀ ad, lv_args 0 (zts ad args) = zl ad 0 ls) (hn : ∀ ad, (lg_sl (zts ad args)).length ≤ M.2.2.1)
    (h : HH M hh d t W₀ 0 ls [] (fun z W' => Q (some (zI z)) W')) : EvH M hh d t W₀ args Q := by
  intro l D Y ad A hst hAd
  have hM : vx_Met l M.2.2.2.1 (zwH M hh) (zRm d t) (zEPH D Y ad A W₀ args) (zEQ D Y ad A Q) (fun _ _ _ => False) t (6 * t) A := by
    refine vx_ofWH (cc := M.2.1) (maxL := M.2.2.1) (ret := M.2.2.2.2) (hh := hh) hy rfl ?_
    intro p e s m a below meth c s₁ B hml hv
    obtain ⟨rfl, hP, hE, hA, hNc⟩ := hv
    have hts := atoms_spec (ws := zwH M hh) B.pre
    have hown : s.vm.findClass M.1 = some m.cls := by rw [hy2]; exact findClass_of_methodNamed B.named
    have hlocks := B.notSynchronized
    have hx := B.exec
    have hb := B.bytes
    have htab : c.exceptionTable.toList = tableOf hh := vx_table (x := M.2.2.2.1) B (hts _ List.mem_cons_self)
    have hC : zCH M hh d t p l (headSpec (zwH M hh) (zRm d t)).room s m (zts ad args).toArray meth c 0 0 D Y ad A :=
      ⟨⟨hx, hb, hml, hown, hts⟩, hst, hlocks, htab, B.returns, hE, hAd, hA, Nat.le_refl _, Nat.le_refl _, by show 0 + t ≤ t; omega, by show 0 + 6 * t ≤ 6 * t; omega, hNc⟩
    have hl := lv_entry (zts ad args) (n := M.2.2.1) (hn ad)
    rw [hl0 ad] at hl
    rw [lg_entry_eq]
    refine h p l e _ s m (zts ad args).toArray below meth c 0 0 _ D Y ad A hC ?_ s.heap [] _ hP va_S.rf hl
    intro z pc' W' H' locs' lsA' cells' slots' hdg hq hP' hS' hc' hs'
    refine W.widen (k := t) (n := 6 * t) (by omega) (by omega) (vx_ret ?_)
    exact W.zret hx hb (B.returns.trans hr) rfl (fun tt htt hW => ⟨⟨some (zI z), W', rfl, hq, by rw [htt]; exact hP'⟩, hS'.F htt⟩) hS'.2.2 hdg hlocks
  intro p e h1 h2 h3 s m args below h4 h5 h6 h7
  obtain ⟨n9, o, g1, g2, g3, g4⟩ := hM p e h1 h2 h3 s m args below h4 h5 h6 h7
  refine ⟨n9, o, g1, g2, g3, ?_⟩
  rcases g4 with g4 | ⟨q, -, E, ce, L, hf, -⟩
  · exact g4
  · exact hf.elim
