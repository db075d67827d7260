/-! the law's start: what the statement gives of the strings and of the static fields -/
def zF9 : List Cond := flatC (.and given_1 narrow_1)
def zBs : List Nat := [41, 50, 57, 64, 73, 83, 92, 103, 113, 123, 131, 463, 473, 481, 489, 499, 510, 520, 532, 543, 554, 563, 141, 165, 200, 248, 310, 325, 342, 367, 384, 421, 447, 182, 230, 278, 405, 293]
def zSr : List Nat := [428, 489, 490, 504, 516, 531, 543, 544, 545, 550, 551, 1253, 1276, 1277, 1282, 1299, 1308, 1309, 1310, 1311, 1312, 1325, 782, 841, 876, 896, 965, 1041, 1049, 1052, 1067, 1090, 1098, 869, 890, 908, 1082, 930]
def zCk (i : Nat) (q : String × Nat × String × List Int) : Bool :=
  decide (zF9[zBs.getD i 0]? = some (.exactly (.string q.1 q.2.1) "java/lang/String")) && decide (zF9[zBs.getD i 0 + 1]? = some (.eq (.field (.string q.1 q.2.1) "java/lang/String" "coder" "B") (.int 0))) && decide (zF9[zBs.getD i 0 + 2]? = some (.arrayOf (.field (.string q.1 q.2.1) "java/lang/String" "value" "[B") .byte)) && decide (zF9[zBs.getD i 0 + 3]? = some (.eq (.length (.field (.string q.1 q.2.1) "java/lang/String" "value" "[B")) (.int (Int32.ofNat q.2.2.2.length)))) &&
  (List.range q.2.2.2.length).all (fun j => decide (zF9[zBs.getD i 0 + 4 + j]? = some (.eq (.elem (.field (.string q.1 q.2.1) "java/lang/String" "value" "[B") (.int (Int32.ofNat j))) (.int (Int32.ofInt (q.2.2.2.getD j 0)))))) && decide (lw_tbl[zSr.getD i 0]? = some (.stringRef q.1 q.2.1 q.2.2.1)) && decide (q.2.2.2.length < 2 ^ 31)
theorem zCk_all : (List.range 38).all (fun i => match zStrs[i]? with | none => false | some q => zCk i q) = true := by decide +kernel
theorem zCk_at {i : Nat} {q : String × Nat × String × List Int} (h : zStrs[i]? = some q) : zCk i q = true := by
  have hi : i < 38 := (List.getElem?_eq_some_iff.mp h).1
  have h9 := List.all_eq_true.mp zCk_all i (List.mem_range.mpr hi)
  rw [h] at h9
  exact h9
theorem zStr_get {s : State} {args : Array Value} {A : Nat → Prop} (ht : ∀ w ∈ lw_tbl, w.before args s = true) (hg : ∀ w ∈ zF9, w.before args s = true) (hA : ∀ a : Nat, a < s.heap.size → ¬ A a) {i : Nat} {q : String × Nat × String × List Int} (h : zStrs[i]? = some q) : ∃ a v : Nat, zStr1 q a v A s := by
  have hc := zCk_at h
  unfold zCk at hc
  simp only [Bool.and_eq_true, decide_eq_true_eq] at hc
  obtain ⟨⟨⟨⟨⟨⟨h1, h2⟩, h3⟩, h4⟩, h5⟩, h6⟩, h7⟩ := hc
  have w1 := hg _ (List.mem_of_getElem? h1)
  have w2 := hg _ (List.mem_of_getElem? h2)
  have w3 := hg _ (List.mem_of_getElem? h3)
  have w4 := hg _ (List.mem_of_getElem? h4)
  have w5 : ∀ j : Nat, j < q.2.2.2.length → (Cond.eq (.elem (.field (.string q.1 q.2.1) "java/lang/String" "value" "[B") (.int (Int32.ofNat j))) (.int (Int32.ofInt (q.2.2.2.getD j 0)))).before args s = true := fun j hj => hg _ (List.mem_of_getElem? (of_decide_eq_true (List.all_eq_true.mp h5 j (List.mem_range.mpr hj))))
  have w6 := ht _ (List.mem_of_getElem? h6)
  obtain ⟨a, c, cA, kA, q1, q2, q3, q4, q5, q6, -⟩ := Cond.exactly_spec (args := args) (first := s) (o := none) (s := s) (idx := []) (t := .string q.1 q.2.1) (cls := "java/lang/String") w1
  obtain ⟨t, ht9, hT⟩ := va_Tof (f := fun j => .int (Int32.ofInt (q.2.2.2.getD j 0))) (A := A) h7 w3 (va_eqt w4) (fun j hj => va_eqt (w5 j hj)) hA
  exact ⟨a, t, vk_R.of w6 q1, ⟨cA, q3, q5, by rw [q6]; exact q2, hA a (Array.getElem?_eq_some_iff.mp q3).1⟩, vk_OFof q1 (va_eqt w2) hA, vk_OFof q1 ht9 hA, hT⟩
theorem zF9_at {w : Cond} (i : Nat) (h : zF9[i]? = some w) : w ∈ zF9 := List.mem_of_getElem? h
theorem zSt_get {s : State} {args : Array Value} {A : Nat → Prop} (ht : ∀ w ∈ lw_tbl, w.before args s = true) (hg : ∀ w ∈ zF9, w.before args s = true) (hA : ∀ a : Nat, a < s.heap.size → ¬ A a) :
    vx_Zq Bundle.tN "UNASSIGNED_STACK" Bundle.steD A s s.heap ∧ vx_Zq Bundle.tN "SUPPRESSED_SENTINEL" Bundle.listD A s s.heap ∧ va_Z "java/lang/String" "COMPACT_STRINGS" "Z" (.int 1) A s s.heap ∧ va_Zq "jdk/internal/util/Preconditions" "SIOOBE_FORMATTER" "Ljava/util/function/BiFunction;" A s s.heap ∧ zNc s :=
  ⟨vx_Zqof (ht _ (List.mem_of_getElem? (i := 768) (by decide +kernel))) (ht _ (List.mem_of_getElem? (i := 137) (by decide +kernel))) (hg _ (zF9_at 9 (by decide +kernel))) hA,
   vx_Zqof (ht _ (List.mem_of_getElem? (i := 770) (by decide +kernel))) (ht _ (List.mem_of_getElem? (i := 137) (by decide +kernel))) (hg _ (zF9_at 10 (by decide +kernel))) hA,
   va_Zof (ht _ (List.mem_of_getElem? (i := 446) (by decide +kernel))) (ht _ (List.mem_of_getElem? (i := 141) (by decide +kernel))) (va_eqt (hg _ (zF9_at 4 (by decide +kernel)))) hA,
   va_Zqof (ht _ (List.mem_of_getElem? (i := 462) (by decide +kernel))) (ht _ (List.mem_of_getElem? (i := 143) (by decide +kernel))) (hg _ (zF9_at 5 (by decide +kernel))) hA,
   va_Nc.of (hg _ (zF9_at 40 (by decide +kernel))), va_Nc.of (hg _ (zF9_at 39 (by decide +kernel)))⟩
/-- the classes and the arrays' classes -/
theorem zEL_get {s : State} {args : Array Value} (ht : ∀ w ∈ lw_tbl, w.before args s = true) : ∃ (D : va_G) (Y : zY), zEL D Y s := by
  have hW : ∀ w ∈ zWs, w.before args s = true := fun w hw => ht w (List.mem_filter.mp hw).1
  have hk : ∀ c : Nat, ∃ z : ClassId × (Nat → Nat), ∀ q : vw_C, vwCl[c]? = some q → u_Kn s q.1 q.2.1 q.2.2 z.1 z.2 := by
    intro c
    rcases Nat.lt_or_ge c 8 with hc | hc
    · rcases (show c = 0 ∨ c = 1 ∨ c = 2 ∨ c = 3 ∨ c = 4 ∨ c = 5 ∨ c = 6 ∨ c = 7 by omega) with rfl | rfl | rfl | rfl | rfl | rfl | rfl | rfl
      · obtain ⟨cC, iS, h9⟩ := u_known (C := RX0) (T := TX0) (N := 15) (n := 15) hW uwX0 (ht _ (List.mem_of_getElem? (i := 159) (by decide +kernel)))
        exact ⟨(cC, iS), fun q hq => by cases hq; exact h9⟩
      · obtain ⟨cC, iS, h9⟩ := u_known (C := RX1) (T := TX1) (N := 2) (n := 2) hW uwX1 (ht _ (List.mem_of_getElem? (i := 244) (by decide +kernel)))
        exact ⟨(cC, iS), fun q hq => by cases hq; exact h9⟩
      · obtain ⟨cC, iS, h9⟩ := u_known (C := RX2) (T := TX2) (N := 3) (n := 3) hW uwX2 (ht _ (List.mem_of_getElem? (i := 304) (by decide +kernel)))
        exact ⟨(cC, iS), fun q hq => by cases hq; exact h9⟩
      · obtain ⟨cC, iS, h9⟩ := u_known (C := RX3) (T := TX3) (N := 7) (n := 7) hW uwX3 (ht _ (List.mem_of_getElem? (i := 324) (by decide +kernel)))
        exact ⟨(cC, iS), fun q hq => by cases hq; exact h9⟩
      · obtain ⟨cC, iS, h9⟩ := u_known (C := RX4) (T := TX4) (N := 11) (n := 11) hW uwX4 (ht _ (List.mem_of_getElem? (i := 250) (by decide +kernel)))
        exact ⟨(cC, iS), fun q hq => by cases hq; exact h9⟩
      · obtain ⟨cC, iS, h9⟩ := u_known (C := RX5) (T := TX5) (N := 2) (n := 2) hW uwX5 (ht _ (List.mem_of_getElem? (i := 356) (by decide +kernel)))
        exact ⟨(cC, iS), fun q hq => by cases hq; exact h9⟩
      · obtain ⟨cC, iS, h9⟩ := u_known (C := RX6) (T := TX6) (N := 8) (n := 8) hW uwX6 (ht _ (List.mem_of_getElem? (i := 151) (by decide +kernel)))
        exact ⟨(cC, iS), fun q hq => by cases hq; exact h9⟩
      · obtain ⟨cC, iS, h9⟩ := u_known (C := RX7) (T := TX7) (N := 27) (n := 27) hW uwX7 (ht _ (List.mem_of_getElem? (i := 1100) (by decide +kernel)))
        exact ⟨(cC, iS), fun q hq => by cases hq; exact h9⟩
    · exact ⟨(0, fun _ => 0), fun q hq => by
        have h9 : c < 8 := (List.getElem?_eq_some_iff.mp hq).1
        omega⟩
  obtain ⟨f, hf⟩ := Classical.axiomOfChoice hk
  have arr : ∀ ty : FieldType, (∀ C, ty ≠ .object C) → (Cond.arrayClass ty).before args s = true → ∃ cA : ClassId, ArrOfT s cA ty ∧ va_RA s cA ty := by
    intro ty hty h
    obtain ⟨cA, kA, comp, h1, h2, h3⟩ := Cond.arrayClass_spec h
    refine ⟨cA, fun n z => ⟨fun k h => (by cases h), kA, h2, comp, h3⟩, ?_⟩
    cases ty <;> first | exact h1 | (exfalso; exact hty _ rfl)
  obtain ⟨c0, p0, r0⟩ := arr .int (fun C h => by cases h) (ht _ (List.mem_of_getElem? (i := 241) (by decide +kernel)))
  obtain ⟨c1, p1, r1⟩ := arr .byte (fun C h => by cases h) (ht _ (List.mem_of_getElem? (i := 242) (by decide +kernel)))
  obtain ⟨c2, p2, r2⟩ := arr .boolean (fun C h => by cases h) (ht _ (List.mem_of_getElem? (i := 354) (by decide +kernel)))
  obtain ⟨c4, p4, r4⟩ := arr .long (fun C h => by cases h) (ht _ (List.mem_of_getElem? (i := 1598) (by decide +kernel)))
  have hao : (Cond.arrayOver (.object "HopscotchCourt$Court")).before args s = true := ht _ (List.mem_of_getElem? (i := 310) (by decide +kernel))
  obtain ⟨comp, c3, kA, g1, g2, g3, g4, g5⟩ := Cond.arrayOver_spec hao
  refine ⟨(fun c => (f c).1, fun c => (f c).2), (c0, c1, c2, c3, c4), ⟨fun c q hq => hf c q hq, fun k q hq => ?_⟩, fun w hw => va_Nw.of (zNst_on hw) (ht w (List.mem_filter.mp hw).1), va_AO.of hao⟩
  have hk5 : k < 5 := (List.getElem?_eq_some_iff.mp hq).1
  rcases (show k = 0 ∨ k = 1 ∨ k = 2 ∨ k = 3 ∨ k = 4 by omega) with rfl | rfl | rfl | rfl | rfl
  · cases hq; exact ⟨p0, r0⟩
  · cases hq; exact ⟨p1, r1⟩
  · cases hq; exact ⟨p2, r2⟩
  · cases hq; exact ⟨fun n z => ⟨fun k h => (by cases h), kA, g3, comp, g4⟩, kA, comp, g3, g4, g1, g5⟩
  · cases hq; exact ⟨p4, r4⟩
