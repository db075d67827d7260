/-! words: what a method may read of the tables; what holds around a walk -/
def zNw : Cond → Bool
  | .fieldLinkNest .. => true
  | .methodLinkNest .. => true
  | .castable .. => true
  | .declares _ => true
  | _ => false
def zWs : List Cond := lw_tbl.filter goodWord
def zNst : List Cond := lw_tbl.filter zNw
theorem zWs_in {w : Cond} (i : Nat) (h : lw_tbl[i]? = some w) (hg : goodWord w = true) : w ∈ zWs := List.mem_filter.mpr ⟨List.mem_of_getElem? h, hg⟩
theorem zNst_in {w : Cond} (i : Nat) (h : lw_tbl[i]? = some w) (hg : zNw w = true) : w ∈ zNst := List.mem_filter.mpr ⟨List.mem_of_getElem? h, hg⟩
theorem zNst_warm {w : Cond} {s U : State} (hw : w ∈ zNst) (hW : s.WarmedH U.vm) (h : va_Nw w s) : va_Nw w U := by
  have hn := (List.mem_filter.mp hw).2
  cases w with
  | fieldLinkNest a i b n d h9 => exact va_Nw.warmF hW h
  | methodLinkNest a i x h9 => exact va_Nw.warmM hW h
  | castable C T => exact va_Nw.warmC hW h
  | declares x => exact va_Nw.warmD hW h
  | _ => cases hn
theorem zNst_on {w : Cond} (hw : w ∈ zNst) : w.onTables = true := by
  have hn := (List.mem_filter.mp hw).2
  cases w <;> first | rfl | cases hn
def zwM (M : zM) : List Cond := Cond.code M.2.2.2.1 M.2.1 M.2.2.1 M.2.2.2.2 :: zWs
theorem zWs_good {w : Cond} (h : w ∈ zWs) : goodWord w = true := (List.mem_filter.mp h).2
theorem zwM_good (M M' : zM) (h : Cond.code M'.2.2.2.1 M'.2.1 M'.2.2.1 M'.2.2.2.2 ∈ zWs) : GoodIn (zwM M) (zwM M') := by
  intro w hw
  have h9 : w ∈ zWs := by
    rcases List.mem_cons.mp hw with rfl | h1
    · exact h
    · exact h1
  exact ⟨List.mem_cons_of_mem _ h9, good_of_word (zWs_good h9)⟩
def zStrs : List (String × Nat × String × List Int) := [("HopscotchCourt$Reader", 44, "court", [99, 111, 117, 114, 116]), ("HopscotchCourt$Reader", 57, "one", [111, 110, 101]), ("HopscotchCourt$Reader", 62, "two", [116, 119, 111]), ("HopscotchCourt$Reader", 74, "drift", [100, 114, 105, 102, 116]), ("HopscotchCourt$Reader", 88, "player", [112, 108, 97, 121, 101, 114]), ("HopscotchCourt$Reader", 106, "reach", [114, 101, 97, 99, 104]), ("HopscotchCourt$Reader", 112, "balance", [98, 97, 108, 97, 110, 99, 101]), ("HopscotchCourt$Reader", 114, "target", [116, 97, 114, 103, 101, 116]), ("HopscotchCourt$Reader", 116, "claims", [99, 108, 97, 105, 109, 115]), ("HopscotchCourt$Reader", 138, "owns", [111, 119, 110, 115]), ("HopscotchCourt$Reader", 121, "marker", [109, 97, 114, 107, 101, 114]), ("HopscotchCourtModel", 193, "court", [99, 111, 117, 114, 116]), ("HopscotchCourtModel", 142, "one", [111, 110, 101]), ("HopscotchCourtModel", 144, "two", [116, 119, 111]), ("HopscotchCourtModel", 198, "drift", [100, 114, 105, 102, 116]), ("HopscotchCourtModel", 157, "player", [112, 108, 97, 121, 101, 114]), ("HopscotchCourtModel", 162, "reach", [114, 101, 97, 99, 104]), ("HopscotchCourtModel", 170, "balance", [98, 97, 108, 97, 110, 99, 101]), ("HopscotchCourtModel", 172, "target", [116, 97, 114, 103, 101, 116]), ("HopscotchCourtModel", 174, "claims", [99, 108, 97, 105, 109, 115]), ("HopscotchCourtModel", 176, "owns", [111, 119, 110, 115]), ("HopscotchCourtModel", 181, "marker", [109, 97, 114, 107, 101, 114]), ("HopscotchCourt", 75, "the text is too long", [116, 104, 101, 32, 116, 101, 120, 116, 32, 105, 115, 32, 116, 111, 111, 32, 108, 111, 110, 103]), ("HopscotchCourt", 136, "no such count", [110, 111, 32, 115, 117, 99, 104, 32, 99, 111, 117, 110, 116]), ("HopscotchCourt", 142, "no such number of a player", [110, 111, 32, 115, 117, 99, 104, 32, 110, 117, 109, 98, 101, 114, 32, 111, 102, 32, 97, 32, 112, 108, 97, 121, 101, 114]), ("HopscotchCourt", 170, "no such number of a square", [110, 111, 32, 115, 117, 99, 104, 32, 110, 117, 109, 98, 101, 114, 32, 111, 102, 32, 97, 32, 115, 113, 117, 97, 114, 101]), ("HopscotchCourt", 216, "no such hop", [110, 111, 32, 115, 117, 99, 104, 32, 104, 111, 112]), ("HopscotchCourt", 261, "no such drift", [110, 111, 32, 115, 117, 99, 104, 32, 100, 114, 105, 102, 116]), ("HopscotchCourt", 263, "no such number to set", [110, 111, 32, 115, 117, 99, 104, 32, 110, 117, 109, 98, 101, 114, 32, 116, 111, 32, 115, 101, 116]), ("HopscotchCourt", 271, "no such value", [110, 111, 32, 115, 117, 99, 104, 32, 118, 97, 108, 117, 101]), ("HopscotchCourt", 276, "no change to undo", [110, 111, 32, 99, 104, 97, 110, 103, 101, 32, 116, 111, 32, 117, 110, 100, 111]), ("HopscotchCourt", 284, "nothing is saved there", [110, 111, 116, 104, 105, 110, 103, 32, 105, 115, 32, 115, 97, 118, 101, 100, 32, 116, 104, 101, 114, 101]), ("HopscotchCourt", 290, "no such byte", [110, 111, 32, 115, 117, 99, 104, 32, 98, 121, 116, 101]), ("HopscotchCourt", 296, "no such player", [110, 111, 32, 115, 117, 99, 104, 32, 112, 108, 97, 121, 101, 114]), ("HopscotchCourt", 298, "no such square", [110, 111, 32, 115, 117, 99, 104, 32, 115, 113, 117, 97, 114, 101]), ("HopscotchCourt", 300, "no such row", [110, 111, 32, 115, 117, 99, 104, 32, 114, 111, 119]), ("HopscotchCourt", 302, "no such slot", [110, 111, 32, 115, 117, 99, 104, 32, 115, 108, 111, 116]), ("HopscotchCourt", 304, "no such throw", [110, 111, 32, 115, 117, 99, 104, 32, 116, 104, 114, 111, 119])]

def zStr1 (q : String × Nat × String × List Int) (a v : Nat) (A : Nat → Prop) (U : State) : Prop :=
  vk_R q.1 q.2.1 q.2.2.1 a U ∧ va_O "java/lang/String" a A U U.heap ∧ va_OF "java/lang/String" "coder" "B" (.int 0) a A U U.heap ∧ va_OF "java/lang/String" "value" "[B" (.ref v) a A U U.heap ∧ va_T .byte v q.2.2.2.length (fun j => .int (Int32.ofInt (q.2.2.2.getD j 0))) A U U.heap
theorem zStr1.move {q : String × Nat × String × List Int} {a v : Nat} {A : Nat → Prop} {s U : State} {H : Heap} {locs : List Loc} (hW : s.WarmedH U.vm) (hH : U.heap = H) (hS : va_S A s.heap H locs) (h : zStr1 q a v A s) : zStr1 q a v A U := by
  obtain ⟨h1, h2, h3, h4, h5⟩ := h
  subst hH
  exact ⟨vk_R.warm hW h1, (va_O.moved hW.alike h2).kept hS.2.1, (va_OF.moved hW.alike h3).kept hS.2.1, (va_OF.moved hW.alike h4).kept hS.2.1, (va_T.moved hW.alike h5).kept hS.2.1⟩
def zE (D : va_G) (Y : zY) (ad : Nat → Nat) (A : Nat → Prop) (U : State) : Prop :=
  va_K D vwCl (ztys Y) U ∧ (∀ w ∈ zNst, va_Nw w U) ∧ vx_Zq Bundle.tN "UNASSIGNED_STACK" Bundle.steD A U U.heap ∧ vx_Zq Bundle.tN "SUPPRESSED_SENTINEL" Bundle.listD A U U.heap ∧
  (∀ (i : Nat) (q : String × Nat × String × List Int), zStrs[i]? = some q → zStr1 q (ad (1000 + i)) (ad (1100 + i)) A U) ∧
  va_Z "java/lang/String" "COMPACT_STRINGS" "Z" (.int 1) A U U.heap ∧ (va_Z "jdk/internal/util/Preconditions" "SIOOBE_FORMATTER" "Ljava/util/function/BiFunction;" (.ref (ad 1200)) A U U.heap ∨ va_Z "jdk/internal/util/Preconditions" "SIOOBE_FORMATTER" "Ljava/util/function/BiFunction;" .null A U U.heap)
theorem zE.move {D : va_G} {Y : zY} {ad : Nat → Nat} {A : Nat → Prop} {s U : State} {H : Heap} {locs : List Loc} (hW : s.WarmedH U.vm) (hH : U.heap = H) (hS : va_S A s.heap H locs) (h : zE D Y ad A s) : zE D Y ad A U := by
  obtain ⟨h1, h2, h3, h4, h5, h6, h7⟩ := h
  subst hH
  exact ⟨va_K.moved hW.alike h1, fun w hw => zNst_warm hw hW (h2 w hw), (vx_Zq.moved hW.alike h3).kept hS.2.1, (vx_Zq.moved hW.alike h4).kept hS.2.1, fun i q hq => (h5 i q hq).move hW rfl hS, (va_Z.moved hW.alike h6).kept hS.2.1, h7.imp (fun h => (va_Z.moved hW.alike h).kept hS.2.1) (fun h => (va_Z.moved hW.alike h).kept hS.2.1)⟩
theorem zE.frame {D : va_G} {Y : zY} {ad : Nat → Nat} {A : Nat → Prop} {U : State} {g : JFrame} {mk : MethodId} {a : Array Value} (h : zE D Y ad A U) : zE D Y ad A (U.calling g mk a) := by
  have hW : U.WarmedH (U.calling g mk a).vm := State.WarmedH.refl U
  exact h.move (H := U.heap) (locs := []) hW rfl va_S.rf
def zAd (ad : Nat → Nat) (A : Nat → Prop) : Prop := (∀ i j : Nat, i < 129 → j < 129 → ad i = ad j → i = j) ∧ ∀ k : Nat, k < 129 → A (ad k)
theorem zAd.D {ad : Nat → Nat} {A : Nat → Prop} (h : zAd ad A) (Y : zY) (W : zWd) : va_D A (zws Y ad W) := by
  have key : ∀ (i : Nat) (p : Nat × va_E), (zws Y ad W)[i]? = some p → i < 129 ∧ p.1 = ad i := by
    intro i p hp
    rcases Nat.lt_or_ge i 129 with q | q
    · rw [zws_at Y ad W q] at hp
      exact ⟨q, by cases hp; rfl⟩
    · rw [List.getElem?_eq_none (by simp [zws]; exact q)] at hp
      cases hp
  refine ⟨fun i j p q hp hq e => ?_, fun k q hq => ?_⟩
  · obtain ⟨h1, h2⟩ := key i p hp
    obtain ⟨h3, h4⟩ := key j q hq
    exact h.1 i j h1 h3 (by rw [← h2, ← h4]; exact e)
  · obtain ⟨h1, h2⟩ := key k q hq
    rw [h2]
    exact h.2 k h1
def zC (M : zM) (d t : Nat) (p : Program) (l : Launch) (R : Room) (s : State) (m : MethodId) (args : Array Value) (meth : Method) (c : Code) (cells slots : Nat) (D : va_G) (Y : zY) (ad : Nat → Nat) (A : Nat → Prop) : Prop :=
  CallFix p m c M.2.1 M.2.2.1 s args (zwM M) M.1 ∧ l.stackTraces = false ∧ meth.locks = false ∧ (∀ x ∈ c.exceptionTable.toList, False) ∧ meth.sig.returnType = M.2.2.2.2 ∧ zE D Y ad A s ∧ zAd ad A ∧ (∀ q : Nat, s.heap.size ≤ q → A q) ∧ d ≤ R.frames ∧ 40 * d ≤ R.locals ∧ cells + t ≤ R.cells ∧ slots + 6 * t ≤ R.slots
/-- from here the machine comes to a point of K, or throws as X says -/
def RR (M : zM) (d t : Nat) (W₀ : zWd) (pc : Nat) (ls st : List Value) (K : zK) (X : zX) : Prop :=
  ∀ (p : Program) (l : Launch) (e : Env) (R : Room) (s : State) (m : MethodId) (args : Array Value) (below : List Frame) (meth : Method) (c : Code) (cells slots : Nat) (Q : State → Prop) (D : va_G) (Y : zY) (ad : Nat → Nat) (A : Nat → Prop),
    zC M d t p l R s m args meth c cells slots D Y ad A →
    (∀ (t' pc' : Nat) (ls' st' : List Value) (W' : zWd) (H' : Heap) (locs' : List Loc) (lsA' : Array Slot) (cells' slots' : Nat), K t' pc' ls' st' W' → va_P D vwCl (zws Y ad W') H' → va_S A s.heap H' locs' → lv_has lsA' M.2.2.1 (zl ad 0 ls') → cells' + t' ≤ cells + t → slots' + 6 * t' ≤ slots + 6 * t → W p l e R s m args below meth c H' locs' cells' slots' Q (F0 m pc' lsA' (zts ad st'))) →
    (∀ (E : String) (pc' : Nat) (st' : List Value) (W' : zWd) (H' : Heap) (locs' : List Loc) (lsA' : Array Slot) (cells' slots' : Nat) (ce : Cell) (q : Addr), X E W' → va_P D vwCl (zws Y ad W') H' → va_S A s.heap H' locs' → cells' ≤ cells + t → slots' ≤ slots + 6 * t → H'[q]? = some ce → ce.vm = .none → s.vm.findClass E = some ce.cls → vx_W p l e R s m args below meth c H' locs' cells' slots' Q (F0 m pc' lsA' st') q) →
    ∀ (H : Heap) (locs : List Loc) (lsA : Array Slot), va_P D vwCl (zws Y ad W₀) H → va_S A s.heap H locs → lv_has lsA M.2.2.1 (zl ad 0 ls) → W p l e R s m args below meth c H locs cells slots Q (F0 m pc lsA (zts ad st))
theorem rr_base {M : zM} {d t : Nat} {W₀ : zWd} {pc : Nat} {ls st : List Value} {K : zK} {X : zX} (h : K t pc ls st W₀) : RR M d t W₀ pc ls st K X := by
  intro p l e R s m args below meth c cells slots Q D Y ad A hC hK hX H locs lsA hP hS hl
  exact hK t pc ls st W₀ H locs lsA cells slots h hP hS hl (by omega) (by omega)
/-- one walk behind another -/
theorem rr_seq {M : zM} {d t : Nat} {W₀ : zWd} {pc : Nat} {ls st : List Value} {K K' : zK} {X : zX} (h : RR M d 0 W₀ pc ls st K' (fun _ _ => False)) (hk : ∀ t' pc' ls' st' W', K' t' pc' ls' st' W' → RR M d t W' pc' ls' st' K X) : RR M d t W₀ pc ls st K X := by
  intro p l e R s m args below meth c cells slots Q D Y ad A hC hK hX H locs lsA hP hS hl
  obtain ⟨h1, h2, h3, h4, h5, h6, h7, h8, h9, h10, h11, h12⟩ := id hC
  refine h p l e R s m args below meth c cells slots Q D Y ad A ⟨h1, h2, h3, h4, h5, h6, h7, h8, h9, h10, by omega, by omega⟩ (fun t' pc' ls' st' W' H' locs' lsA' cells' slots' k hP' hS' hl' hc' hs' => ?_) (fun E pc' st' W' H' locs' lsA' cells' slots' ce q k => k.elim) H locs lsA hP hS hl
  refine W.widen (k := cells) (n := slots) (by omega) (by omega) ?_
  exact hk t' pc' ls' st' W' k p l e R s m args below meth c cells slots Q D Y ad A hC hK hX H' locs' lsA' hP' hS' hl'
section ZA
variable {M : zM} {d t : Nat} {W₀ : zWd} {pc : Nat} {ls st : List Value} {K : zK} {X : zX}
theorem rr_eqW {W₁ : zWd} (e : W₀ = W₁) (k : RR M d t W₁ pc ls st K X) : RR M d t W₀ pc ls st K X := e ▸ k
theorem rr_eqS {st' : List Value} (e : st = st') (k : RR M d t W₀ pc ls st' K X) : RR M d t W₀ pc ls st K X := e ▸ k
theorem rr_eqL {ls' : List Value} (e : ls = ls') (k : RR M d t W₀ pc ls' st K X) : RR M d t W₀ pc ls st K X := e ▸ k
theorem rr_iconst {n : Int} (hd : decode M.2.1 pc = .ok (.iconst n, 1)) (k : RR M d t W₀ (pc + 1) ls (zI n :: st) K X) : RR M d t W₀ pc ls (st) K X := by
  intro p l e R s m args below meth c cells slots Q D Y ad A hC hK hX H locs lsA hP hS hl
  exact lv_iconst hC.1.1 hC.1.2.1 hd rfl (k p l e R s m args below meth c cells slots Q D Y ad A hC hK hX H locs lsA hP hS hl)
theorem rr_bipush {n : Int} (hd : decode M.2.1 pc = .ok (.bipush n, 2)) (k : RR M d t W₀ (pc + 2) ls (zI n :: st) K X) (hv : (Int8.ofInt n).toInt32 = Int32.ofInt n := by decide) : RR M d t W₀ pc ls st K X := by
  intro p l e R s m args below meth c cells slots Q D Y ad A hC hK hX H locs lsA hP hS hl
  exact lv_bipush hC.1.1 hC.1.2.1 hd hv (k p l e R s m args below meth c cells slots Q D Y ad A hC hK hX H locs lsA hP hS hl)
theorem rr_sipush {n : Int} (hd : decode M.2.1 pc = .ok (.sipush n, 3)) (k : RR M d t W₀ (pc + 3) ls (zI n :: st) K X) (hv : (Int16.ofInt n).toInt32 = Int32.ofInt n := by decide) : RR M d t W₀ pc ls st K X := by
  intro p l e R s m args below meth c cells slots Q D Y ad A hC hK hX H locs lsA hP hS hl
  exact lv_sipush hC.1.1 hC.1.2.1 hd hv (k p l e R s m args below meth c cells slots Q D Y ad A hC hK hX H locs lsA hP hS hl)
theorem rr_iload_n {k : Fin 4} {z : Int} (hd : decode M.2.1 pc = .ok (.iload_n k, 1)) (hg : zg ls k = zI z) (kk : RR M d t W₀ (pc + 1) ls (zI z :: st) K X) : RR M d t W₀ pc ls st K X := by
  intro p l e R s m args below meth c cells slots Q D Y ad A hC hK hX H locs lsA hP hS hl
  exact lv_iload_n hC.1.1 hC.1.2.1 hd rfl (zl_at hl hg) (kk p l e R s m args below meth c cells slots Q D Y ad A hC hK hX H locs lsA hP hS hl)
theorem rr_iload {i : Nat} {z : Int} (hd : decode M.2.1 pc = .ok (.iload i, 2)) (hg : zg ls i = zI z) (kk : RR M d t W₀ (pc + 2) ls (zI z :: st) K X) : RR M d t W₀ pc ls st K X := by
  intro p l e R s m args below meth c cells slots Q D Y ad A hC hK hX H locs lsA hP hS hl
  exact lv_iload hC.1.1 hC.1.2.1 hd (zl_at hl hg) (kk p l e R s m args below meth c cells slots Q D Y ad A hC hK hX H locs lsA hP hS hl)
theorem rr_aload_n {k : Fin 4} {r : Nat} (hd : decode M.2.1 pc = .ok (.aload_n k, 1)) (hg : zg ls k = .ref r) (kk : RR M d t W₀ (pc + 1) ls (.ref r :: st) K X) : RR M d t W₀ pc ls st K X := by
  intro p l e R s m args below meth c cells slots Q D Y ad A hC hK hX H locs lsA hP hS hl
  exact lv_aload_n hC.1.1 hC.1.2.1 hd rfl (zl_atR hl hg) (kk p l e R s m args below meth c cells slots Q D Y ad A hC hK hX H locs lsA hP hS hl)
theorem rr_aload {i : Nat} {r : Nat} (hd : decode M.2.1 pc = .ok (.aload i, 2)) (hg : zg ls i = .ref r) (kk : RR M d t W₀ (pc + 2) ls (.ref r :: st) K X) : RR M d t W₀ pc ls st K X := by
  intro p l e R s m args below meth c cells slots Q D Y ad A hC hK hX H locs lsA hP hS hl
  exact lv_aload hC.1.1 hC.1.2.1 hd (zl_atR hl hg) (kk p l e R s m args below meth c cells slots Q D Y ad A hC hK hX H locs lsA hP hS hl)
theorem rr_istore_n {k : Fin 4} {z : Int} (hd : decode M.2.1 pc = .ok (.istore_n k, 1)) (hn : (k : Nat) < M.2.2.1) (kk : RR M d t W₀ (pc + 1) (zs ls k (zI z)) st K X) : RR M d t W₀ pc ls (zI z :: st) K X := by
  intro p l e R s m args below meth c cells slots Q D Y ad A hC hK hX H locs lsA hP hS hl
  exact lv_istore_n hC.1.1 hC.1.2.1 hd rfl hl hn rfl (fun ls' hl' => kk p l e R s m args below meth c cells slots Q D Y ad A hC hK hX H locs ls' hP hS (zl_put (x := zI z) hl'))
theorem rr_istore {i : Nat} {z : Int} (hd : decode M.2.1 pc = .ok (.istore i, 2)) (hn : i < M.2.2.1) (kk : RR M d t W₀ (pc + 2) (zs ls i (zI z)) st K X) : RR M d t W₀ pc ls (zI z :: st) K X := by
  intro p l e R s m args below meth c cells slots Q D Y ad A hC hK hX H locs lsA hP hS hl
  exact lv_istore hC.1.1 hC.1.2.1 hd hl hn rfl (fun ls' hl' => kk p l e R s m args below meth c cells slots Q D Y ad A hC hK hX H locs ls' hP hS (zl_put (x := zI z) hl'))
theorem rr_astore_n {k : Fin 4} {r : Nat} (hd : decode M.2.1 pc = .ok (.astore_n k, 1)) (hn : (k : Nat) < M.2.2.1) (kk : RR M d t W₀ (pc + 1) (zs ls k (.ref r)) st K X) : RR M d t W₀ pc ls (.ref r :: st) K X := by
  intro p l e R s m args below meth c cells slots Q D Y ad A hC hK hX H locs lsA hP hS hl
  exact lv_astore_n hC.1.1 hC.1.2.1 hd rfl hl hn rfl (fun ls' hl' => kk p l e R s m args below meth c cells slots Q D Y ad A hC hK hX H locs ls' hP hS (zl_put (x := .ref r) hl'))
theorem rr_astore {i : Nat} {r : Nat} (hd : decode M.2.1 pc = .ok (.astore i, 2)) (hn : i < M.2.2.1) (kk : RR M d t W₀ (pc + 2) (zs ls i (.ref r)) st K X) : RR M d t W₀ pc ls (.ref r :: st) K X := by
  intro p l e R s m args below meth c cells slots Q D Y ad A hC hK hX H locs lsA hP hS hl
  exact lv_astore hC.1.1 hC.1.2.1 hd hl hn rfl (fun ls' hl' => kk p l e R s m args below meth c cells slots Q D Y ad A hC hK hX H locs ls' hP hS (zl_put (x := .ref r) hl'))
theorem rr_dup_i {z : Int} (hd : decode M.2.1 pc = .ok (.dup, 1)) (k : RR M d t W₀ (pc + 1) ls (zI z :: zI z :: st) K X) : RR M d t W₀ pc ls (zI z :: st) K X := by
  intro p l e R s m args below meth c cells slots Q D Y ad A hC hK hX H locs lsA hP hS hl
  exact lv_dup hC.1.1 hC.1.2.1 hd rfl (k p l e R s m args below meth c cells slots Q D Y ad A hC hK hX H locs lsA hP hS hl)
theorem rr_dup_r {r : Nat} (hd : decode M.2.1 pc = .ok (.dup, 1)) (k : RR M d t W₀ (pc + 1) ls (.ref r :: .ref r :: st) K X) : RR M d t W₀ pc ls (.ref r :: st) K X := by
  intro p l e R s m args below meth c cells slots Q D Y ad A hC hK hX H locs lsA hP hS hl
  exact lv_dup hC.1.1 hC.1.2.1 hd rfl (k p l e R s m args below meth c cells slots Q D Y ad A hC hK hX H locs lsA hP hS hl)
theorem rr_dup2 {r : Nat} {z : Int} (hd : decode M.2.1 pc = .ok (.dup2, 1)) (k : RR M d t W₀ (pc + 1) ls (zI z :: .ref r :: zI z :: .ref r :: st) K X) : RR M d t W₀ pc ls (zI z :: .ref r :: st) K X := by
  intro p l e R s m args below meth c cells slots Q D Y ad A hC hK hX H locs lsA hP hS hl
  exact lv_dup2_11 hC.1.1 hC.1.2.1 hd rfl rfl (k p l e R s m args below meth c cells slots Q D Y ad A hC hK hX H locs lsA hP hS hl)
theorem rr_pop_i {z : Int} (hd : decode M.2.1 pc = .ok (.pop, 1)) (k : RR M d t W₀ (pc + 1) ls (st) K X) : RR M d t W₀ pc ls (zI z :: st) K X := by
  intro p l e R s m args below meth c cells slots Q D Y ad A hC hK hX H locs lsA hP hS hl
  exact lv_pop hC.1.1 hC.1.2.1 hd rfl (k p l e R s m args below meth c cells slots Q D Y ad A hC hK hX H locs lsA hP hS hl)
theorem rr_iadd {a b : Int} (hd : decode M.2.1 pc = .ok (.iadd, 1)) (k : RR M d t W₀ (pc + 1) ls (zI (a + b) :: st) K X) : RR M d t W₀ pc ls (zI b :: zI a :: st) K X := by
  intro p l e R s m args below meth c cells slots Q D Y ad A hC hK hX H locs lsA hP hS hl
  have h9 := k p l e R s m args below meth c cells slots Q D Y ad A hC hK hX H locs lsA hP hS hl
  unfold zI at h9
  rw [Int32.ofInt_add] at h9
  exact lv_iadd hC.1.1 hC.1.2.1 hd h9
theorem rr_isub {a b : Int} (hd : decode M.2.1 pc = .ok (.isub, 1)) (k : RR M d t W₀ (pc + 1) ls (zI (a - b) :: st) K X) : RR M d t W₀ pc ls (zI b :: zI a :: st) K X := by
  intro p l e R s m args below meth c cells slots Q D Y ad A hC hK hX H locs lsA hP hS hl
  have h9 := k p l e R s m args below meth c cells slots Q D Y ad A hC hK hX H locs lsA hP hS hl
  unfold zI at h9
  rw [Int32.ofInt_sub] at h9
  exact lv_isub hC.1.1 hC.1.2.1 hd h9
theorem rr_imul {a b : Int} (hd : decode M.2.1 pc = .ok (.imul, 1)) (k : RR M d t W₀ (pc + 1) ls (zI (a * b) :: st) K X) : RR M d t W₀ pc ls (zI b :: zI a :: st) K X := by
  intro p l e R s m args below meth c cells slots Q D Y ad A hC hK hX H locs lsA hP hS hl
  have h9 := k p l e R s m args below meth c cells slots Q D Y ad A hC hK hX H locs lsA hP hS hl
  unfold zI at h9
  rw [Int32.ofInt_mul] at h9
  exact lv_imul hC.1.1 hC.1.2.1 hd h9
theorem rr_ineg {a : Int} (hd : decode M.2.1 pc = .ok (.ineg, 1)) (k : RR M d t W₀ (pc + 1) ls (zI (-a) :: st) K X) : RR M d t W₀ pc ls (zI a :: st) K X := by
  intro p l e R s m args below meth c cells slots Q D Y ad A hC hK hX H locs lsA hP hS hl
  have h9 := k p l e R s m args below meth c cells slots Q D Y ad A hC hK hX H locs lsA hP hS hl
  unfold zI at h9
  rw [Int32.ofInt_neg] at h9
  exact lv_ineg hC.1.1 hC.1.2.1 hd h9
theorem rr_iinc {i : Nat} {n z : Int} (hd : decode M.2.1 pc = .ok (.iinc i n, 3)) (hg : zg ls i = zI z) (hn : i < M.2.2.1) (kk : RR M d t W₀ (pc + 3) (zs ls i (zI (z + n))) st K X) : RR M d t W₀ pc ls st K X := by
  intro p l e R s m args below meth c cells slots Q D Y ad A hC hK hX H locs lsA hP hS hl
  have h1 := zl_get ad ls 0 i _ hg (Or.inl ⟨_, rfl⟩)
  rw [Nat.zero_add] at h1
  obtain ⟨k9, h2⟩ := List.mem_iff_getElem?.mp h1
  exact lv_iinc (v := Int32.ofInt (z + n)) hC.1.1 hC.1.2.1 hd hl h2 (by rw [Int32.ofInt_add]) hn rfl (fun ls' hl' => kk p l e R s m args below meth c cells slots Q D Y ad A hC hK hX H locs ls' hP hS (zl_put (x := zI (z + n)) hl'))
theorem rr_goto {off : Int} {tgt : Nat} (hd : decode M.2.1 pc = .ok (.goto off, 3)) (ht : (pc : Int) + off = (tgt : Int)) (k : RR M d t W₀ tgt ls st K X) : RR M d t W₀ pc ls st K X := by
  intro p l e R s m args below meth c cells slots Q D Y ad A hC hK hX H locs lsA hP hS hl
  exact lv_goto hC.1.1 hC.1.2.1 hd ht (k p l e R s m args below meth c cells slots Q D Y ad A hC hK hX H locs lsA hP hS hl)
theorem rr_icmp_lt {a b : Int} {off : Int} {tgt : Nat} (hd : decode M.2.1 pc = .ok (.if_icmp .lt off, 3)) (ht : (pc : Int) + off = (tgt : Int)) (ha : zR a) (hb : zR b) (kt : a < b → RR M d t W₀ tgt ls st K X) (kf : b ≤ a → RR M d t W₀ (pc + 3) ls st K X) : RR M d t W₀ pc ls (zI b :: zI a :: st) K X := by
  intro p l e R s m args below meth c cells slots Q D Y ad A hC hK hX H locs lsA hP hS hl
  exact lv_icmp_lt hC.1.1 hC.1.2.1 hd ht (fun h => kt ((zR_lt ha hb).mp h) p l e R s m args below meth c cells slots Q D Y ad A hC hK hX H locs lsA hP hS hl) (fun h => kf (Int.not_lt.mp (fun q => h ((zR_lt ha hb).mpr q))) p l e R s m args below meth c cells slots Q D Y ad A hC hK hX H locs lsA hP hS hl)
theorem rr_if_lt {a : Int} {off : Int} {tgt : Nat} (hd : decode M.2.1 pc = .ok (.ifCond .lt off, 3)) (ht : (pc : Int) + off = (tgt : Int)) (ha : zR a) (kt : a < 0 → RR M d t W₀ tgt ls st K X) (kf : 0 ≤ a → RR M d t W₀ (pc + 3) ls st K X) : RR M d t W₀ pc ls (zI a :: st) K X := by
  intro p l e R s m args below meth c cells slots Q D Y ad A hC hK hX H locs lsA hP hS hl
  have hb : zR 0 := zR_zero
  exact lv_if_lt hC.1.1 hC.1.2.1 hd ht (fun h => kt ((zR_lt ha hb).mp h) p l e R s m args below meth c cells slots Q D Y ad A hC hK hX H locs lsA hP hS hl) (fun h => kf (Int.not_lt.mp (fun q => h ((zR_lt ha hb).mpr q))) p l e R s m args below meth c cells slots Q D Y ad A hC hK hX H locs lsA hP hS hl)
theorem rr_icmp_ge {a b : Int} {off : Int} {tgt : Nat} (hd : decode M.2.1 pc = .ok (.if_icmp .ge off, 3)) (ht : (pc : Int) + off = (tgt : Int)) (ha : zR a) (hb : zR b) (kt : b ≤ a → RR M d t W₀ tgt ls st K X) (kf : a < b → RR M d t W₀ (pc + 3) ls st K X) : RR M d t W₀ pc ls (zI b :: zI a :: st) K X := by
  intro p l e R s m args below meth c cells slots Q D Y ad A hC hK hX H locs lsA hP hS hl
  exact lv_icmp_ge hC.1.1 hC.1.2.1 hd ht (fun h => kt ((zR_le hb ha).mp h) p l e R s m args below meth c cells slots Q D Y ad A hC hK hX H locs lsA hP hS hl) (fun h => kf (Int.not_le.mp (fun q => h ((zR_le hb ha).mpr q))) p l e R s m args below meth c cells slots Q D Y ad A hC hK hX H locs lsA hP hS hl)
theorem rr_if_ge {a : Int} {off : Int} {tgt : Nat} (hd : decode M.2.1 pc = .ok (.ifCond .ge off, 3)) (ht : (pc : Int) + off = (tgt : Int)) (ha : zR a) (kt : 0 ≤ a → RR M d t W₀ tgt ls st K X) (kf : a < 0 → RR M d t W₀ (pc + 3) ls st K X) : RR M d t W₀ pc ls (zI a :: st) K X := by
  intro p l e R s m args below meth c cells slots Q D Y ad A hC hK hX H locs lsA hP hS hl
  have hb : zR 0 := zR_zero
  exact lv_if_ge hC.1.1 hC.1.2.1 hd ht (fun h => kt ((zR_le hb ha).mp h) p l e R s m args below meth c cells slots Q D Y ad A hC hK hX H locs lsA hP hS hl) (fun h => kf (Int.not_le.mp (fun q => h ((zR_le hb ha).mpr q))) p l e R s m args below meth c cells slots Q D Y ad A hC hK hX H locs lsA hP hS hl)
theorem rr_icmp_le {a b : Int} {off : Int} {tgt : Nat} (hd : decode M.2.1 pc = .ok (.if_icmp .le off, 3)) (ht : (pc : Int) + off = (tgt : Int)) (ha : zR a) (hb : zR b) (kt : a ≤ b → RR M d t W₀ tgt ls st K X) (kf : b < a → RR M d t W₀ (pc + 3) ls st K X) : RR M d t W₀ pc ls (zI b :: zI a :: st) K X := by
  intro p l e R s m args below meth c cells slots Q D Y ad A hC hK hX H locs lsA hP hS hl
  exact lv_icmp_le hC.1.1 hC.1.2.1 hd ht (fun h => kt ((zR_le ha hb).mp h) p l e R s m args below meth c cells slots Q D Y ad A hC hK hX H locs lsA hP hS hl) (fun h => kf (Int.not_le.mp (fun q => h ((zR_le ha hb).mpr q))) p l e R s m args below meth c cells slots Q D Y ad A hC hK hX H locs lsA hP hS hl)
theorem rr_if_le {a : Int} {off : Int} {tgt : Nat} (hd : decode M.2.1 pc = .ok (.ifCond .le off, 3)) (ht : (pc : Int) + off = (tgt : Int)) (ha : zR a) (kt : a ≤ 0 → RR M d t W₀ tgt ls st K X) (kf : 0 < a → RR M d t W₀ (pc + 3) ls st K X) : RR M d t W₀ pc ls (zI a :: st) K X := by
  intro p l e R s m args below meth c cells slots Q D Y ad A hC hK hX H locs lsA hP hS hl
  have hb : zR 0 := zR_zero
  exact lv_if_le hC.1.1 hC.1.2.1 hd ht (fun h => kt ((zR_le ha hb).mp h) p l e R s m args below meth c cells slots Q D Y ad A hC hK hX H locs lsA hP hS hl) (fun h => kf (Int.not_le.mp (fun q => h ((zR_le ha hb).mpr q))) p l e R s m args below meth c cells slots Q D Y ad A hC hK hX H locs lsA hP hS hl)
theorem rr_icmp_gt {a b : Int} {off : Int} {tgt : Nat} (hd : decode M.2.1 pc = .ok (.if_icmp .gt off, 3)) (ht : (pc : Int) + off = (tgt : Int)) (ha : zR a) (hb : zR b) (kt : b < a → RR M d t W₀ tgt ls st K X) (kf : a ≤ b → RR M d t W₀ (pc + 3) ls st K X) : RR M d t W₀ pc ls (zI b :: zI a :: st) K X := by
  intro p l e R s m args below meth c cells slots Q D Y ad A hC hK hX H locs lsA hP hS hl
  exact lv_icmp_gt hC.1.1 hC.1.2.1 hd ht (fun h => kt ((zR_lt hb ha).mp h) p l e R s m args below meth c cells slots Q D Y ad A hC hK hX H locs lsA hP hS hl) (fun h => kf (Int.not_lt.mp (fun q => h ((zR_lt hb ha).mpr q))) p l e R s m args below meth c cells slots Q D Y ad A hC hK hX H locs lsA hP hS hl)
theorem rr_if_gt {a : Int} {off : Int} {tgt : Nat} (hd : decode M.2.1 pc = .ok (.ifCond .gt off, 3)) (ht : (pc : Int) + off = (tgt : Int)) (ha : zR a) (kt : 0 < a → RR M d t W₀ tgt ls st K X) (kf : a ≤ 0 → RR M d t W₀ (pc + 3) ls st K X) : RR M d t W₀ pc ls (zI a :: st) K X := by
  intro p l e R s m args below meth c cells slots Q D Y ad A hC hK hX H locs lsA hP hS hl
  have hb : zR 0 := zR_zero
  exact lv_if_gt hC.1.1 hC.1.2.1 hd ht (fun h => kt ((zR_lt hb ha).mp h) p l e R s m args below meth c cells slots Q D Y ad A hC hK hX H locs lsA hP hS hl) (fun h => kf (Int.not_lt.mp (fun q => h ((zR_lt hb ha).mpr q))) p l e R s m args below meth c cells slots Q D Y ad A hC hK hX H locs lsA hP hS hl)
theorem rr_icmp_eq {a b : Int} {off : Int} {tgt : Nat} (hd : decode M.2.1 pc = .ok (.if_icmp .eq off, 3)) (ht : (pc : Int) + off = (tgt : Int)) (ha : zR a) (hb : zR b) (kt : a = b → RR M d t W₀ tgt ls st K X) (kf : a ≠ b → RR M d t W₀ (pc + 3) ls st K X) : RR M d t W₀ pc ls (zI b :: zI a :: st) K X := by
  intro p l e R s m args below meth c cells slots Q D Y ad A hC hK hX H locs lsA hP hS hl
  exact lv_icmp_eq hC.1.1 hC.1.2.1 hd ht (fun h => kt ((zR_eq ha hb).mp h) p l e R s m args below meth c cells slots Q D Y ad A hC hK hX H locs lsA hP hS hl) (fun h => kf (fun q => h ((zR_eq ha hb).mpr q)) p l e R s m args below meth c cells slots Q D Y ad A hC hK hX H locs lsA hP hS hl)
theorem rr_if_eq {a : Int} {off : Int} {tgt : Nat} (hd : decode M.2.1 pc = .ok (.ifCond .eq off, 3)) (ht : (pc : Int) + off = (tgt : Int)) (ha : zR a) (kt : a = 0 → RR M d t W₀ tgt ls st K X) (kf : a ≠ 0 → RR M d t W₀ (pc + 3) ls st K X) : RR M d t W₀ pc ls (zI a :: st) K X := by
  intro p l e R s m args below meth c cells slots Q D Y ad A hC hK hX H locs lsA hP hS hl
  have hb : zR 0 := zR_zero
  exact lv_if_eq hC.1.1 hC.1.2.1 hd ht (fun h => kt ((zR_eq ha hb).mp h) p l e R s m args below meth c cells slots Q D Y ad A hC hK hX H locs lsA hP hS hl) (fun h => kf (fun q => h ((zR_eq ha hb).mpr q)) p l e R s m args below meth c cells slots Q D Y ad A hC hK hX H locs lsA hP hS hl)
theorem rr_icmp_ne {a b : Int} {off : Int} {tgt : Nat} (hd : decode M.2.1 pc = .ok (.if_icmp .ne off, 3)) (ht : (pc : Int) + off = (tgt : Int)) (ha : zR a) (hb : zR b) (kt : a ≠ b → RR M d t W₀ tgt ls st K X) (kf : a = b → RR M d t W₀ (pc + 3) ls st K X) : RR M d t W₀ pc ls (zI b :: zI a :: st) K X := by
  intro p l e R s m args below meth c cells slots Q D Y ad A hC hK hX H locs lsA hP hS hl
  exact lv_icmp_ne hC.1.1 hC.1.2.1 hd ht (fun h => kt (fun q => h ((zR_eq ha hb).mpr q)) p l e R s m args below meth c cells slots Q D Y ad A hC hK hX H locs lsA hP hS hl) (fun h => kf ((zR_eq ha hb).mp h) p l e R s m args below meth c cells slots Q D Y ad A hC hK hX H locs lsA hP hS hl)
theorem rr_if_ne {a : Int} {off : Int} {tgt : Nat} (hd : decode M.2.1 pc = .ok (.ifCond .ne off, 3)) (ht : (pc : Int) + off = (tgt : Int)) (ha : zR a) (kt : a ≠ 0 → RR M d t W₀ tgt ls st K X) (kf : a = 0 → RR M d t W₀ (pc + 3) ls st K X) : RR M d t W₀ pc ls (zI a :: st) K X := by
  intro p l e R s m args below meth c cells slots Q D Y ad A hC hK hX H locs lsA hP hS hl
  have hb : zR 0 := zR_zero
  exact lv_if_ne hC.1.1 hC.1.2.1 hd ht (fun h => kt (fun q => h ((zR_eq ha hb).mpr q)) p l e R s m args below meth c cells slots Q D Y ad A hC hK hX H locs lsA hP hS hl) (fun h => kf ((zR_eq ha hb).mp h) p l e R s m args below meth c cells slots Q D Y ad A hC hK hX H locs lsA hP hS hl)
end ZA
