/-! THE WALK OVER A WORLD OF NUMBERS: things are numbered (ids), a world says for each id and place which whole number stands there; references are fixed once the two systems are made. RR: from here the machine comes to a point that K names, or throws as X says. -/
abbrev zWd : Type := Nat → Int → Int
abbrev zK : Type := Nat → Nat → List Value → List Value → zWd → Prop
abbrev zX : Type := String → zWd → Prop
abbrev zM : Type := String × ByteArray × Nat × MethodName × Option FieldType
abbrev zY : Type := ClassId × ClassId × ClassId × ClassId × ClassId
def zI (z : Int) : Value := .int (Int32.ofInt z)
def zR (z : Int) : Prop := -2147483648 ≤ z ∧ z < 2147483648
theorem zR_toInt {z : Int} (h : zR z) : (Int32.ofInt z).toInt = z := by
  rw [Int32.toInt_ofInt]
  exact Jvm.LawKit.bmod32 (by have := h.1; omega) (by have := h.2; omega)
theorem zR_lt {a b : Int} (ha : zR a) (hb : zR b) : Int32.ofInt a < Int32.ofInt b ↔ a < b := by
  rw [Int32.lt_iff_toInt_lt, zR_toInt ha, zR_toInt hb]
theorem zR_le {a b : Int} (ha : zR a) (hb : zR b) : Int32.ofInt a ≤ Int32.ofInt b ↔ a ≤ b := by
  rw [Int32.le_iff_toInt_le, zR_toInt ha, zR_toInt hb]
theorem zR_eq {a b : Int} (ha : zR a) (hb : zR b) : Int32.ofInt a = Int32.ofInt b ↔ a = b := by
  rw [← Int32.toInt_inj, zR_toInt ha, zR_toInt hb]
theorem zR_zero : zR 0 := by unfold zR; omega
theorem z_ofInt0 : Int32.ofInt 0 = 0 := rfl
theorem zR_of (x : Int32) : zR x.toInt := ⟨by have := Int32.le_toInt x; simpa using this, by have := Int32.toInt_lt x; simpa using this⟩
theorem z_back (x : Int32) : Int32.ofInt x.toInt = x := Int32.ofInt_toInt x
theorem z_clamp {i : Int} (h0 : 0 ≤ i) (h1 : i < 2147483648) : (Int32.ofInt i).toNatClampNeg = i.toNat := by
  show (Int32.ofInt i).toInt.toNat = i.toNat
  rw [zR_toInt ⟨by omega, h1⟩]
theorem z_in {i : Int} {n : Nat} (h0 : 0 ≤ i) (h1 : i < n) (hn : n < 2147483648) : vp_in (Int32.ofInt i) n := by
  rw [vp_in_iff, zR_toInt ⟨by omega, by omega⟩]
  exact ⟨h0, h1⟩
def zup (W : zWd) (k : Nat) (i v : Int) : zWd := fun k' i' => if k' = k then (if i' = i then v else W k' i') else W k' i'
theorem zup_s {W : zWd} {k : Nat} {i v : Int} : zup W k i v k i = v := by simp [zup]
theorem zup_i {W : zWd} {k k' : Nat} {i i' v : Int} (h : i' ≠ i) : zup W k i v k' i' = W k' i' := by simp [zup, h]
theorem zup_k {W : zWd} {k k' : Nat} {i i' v : Int} (h : k' ≠ k) : zup W k i v k' i' = W k' i' := by simp [zup, h]
/-! which thing an id is: 0..7 an object of that class, 10 ints, 11 bytes, 12 booleans, 13 courts, 14 longs; and how long -/
def zk (k : Nat) : Nat × Nat :=
  if k < 96 then
    (if k % 8 = 0 then (0, 0) else if k % 8 = 1 then (10, 11) else if k % 8 = 2 then (10, 21) else if k % 8 = 3 then (10, 21) else if k % 8 = 4 then (10, 21) else if k % 8 = 5 then (10, 60) else if k % 8 = 6 then (11, 48) else (10, 6))
  else if k = 96 then (6, 0) else if k = 97 then (1, 0)
  else if k = 98 then (4, 0) else if k = 99 then (10, 11) else if k = 100 then (10, 12) else if k = 101 then (10, 120) else if k = 102 then (10, 120)
  else if k = 103 then (4, 0) else if k = 104 then (10, 11) else if k = 105 then (10, 12) else if k = 106 then (10, 120) else if k = 107 then (10, 120)
  else if k = 108 then (2, 0) else if k = 109 then (13, 8) else if k = 110 then (13, 2) else if k = 111 then (12, 2)
  else if k = 112 then (3, 0) else if k = 113 then (11, 600) else if k = 114 then (5, 0) else if k = 115 then (11, 300)
  else if k = 116 then (7, 0) else if k = 117 then (10, 160) else if k = 118 then (10, 160) else if k = 119 then (10, 160) else if k = 120 then (10, 1280) else if k = 121 then (10, 320)
  else if k = 122 then (12, 2) else if k = 123 then (10, 600) else if k = 124 then (10, 120) else if k = 125 then (10, 12) else if k = 126 then (10, 12) else if k = 127 then (10, 400) else (14, 1)
/-- how many fields -/
def znf (ci : Nat) : Nat := [15, 2, 3, 7, 11, 2, 8, 27].getD ci 0
/-- the references: of an object's field, of an array's place -/
def zr (k j : Nat) : Option Nat :=
  if k < 96 then (if k % 8 = 0 ∧ 8 ≤ j then some (k + (j - 7)) else none)
  else if k = 96 then some ([0, 8, 97, 108, 110, 111, 112, 114].getD j 0)
  else if k = 97 then some (98 + 5 * j)
  else if k = 98 ∨ k = 103 then (if j = 3 then some (k + 1) else if j = 8 then some (k + 2) else if j = 9 then some (k + 3) else if j = 10 then some (k + 4) else none)
  else if k = 108 then (if j = 0 then some 109 else none)
  else if k = 109 then some (16 + 8 * j)
  else if k = 110 then some (80 + 8 * j)
  else if k = 112 then (if j = 0 then some 113 else none)
  else if k = 114 then (if j = 0 then some 115 else none)
  else if k = 116 then (if j < 6 then some (117 + j) else if j = 8 then some 123 else if j = 17 then some 124 else if j = 18 then some 125 else if j = 19 then some 126 else if j = 25 then some 127 else none)
  else none
def zfv (ad : Nat → Nat) (W : zWd) (k j : Nat) : Value := match zr k j with
  | some r => .ref (ad r)
  | none => .int (Int32.ofInt (W k j))
def zc (Y : zY) (ad : Nat → Nat) (W : zWd) (k : Nat) : va_E :=
  if (zk k).1 = 10 then .inl (Y.1, (zk k).2, .inl (fun j => Int32.ofInt (W k j)))
  else if (zk k).1 = 11 then .inl (Y.2.1, (zk k).2, .inl (fun j => Int32.ofInt (W k j)))
  else if (zk k).1 = 12 then .inl (Y.2.2.1, (zk k).2, .inl (fun j => Int32.ofInt (W k j)))
  else if (zk k).1 = 13 then .inl (Y.2.2.2.1, (zk k).2, .inr (.inr (.inr (.inr (fun j => (zr k j).map ad)))))
  else if (zk k).1 = 14 then .inl (Y.2.2.2.2, (zk k).2, .inr (.inl (fun j => (Int32.ofInt (W k j)).toInt64)))
  else .inr ((zk k).1, (List.range (znf (zk k).1)).map (zfv ad W k))
def zws (Y : zY) (ad : Nat → Nat) (W : zWd) : va_W := (List.range 129).map (fun k => (ad k, zc Y ad W k))
abbrev ztys (Y : zY) : List (ClassId × FieldType) := [(Y.1, .int), (Y.2.1, .byte), (Y.2.2.1, .boolean), (Y.2.2.2.1, .object "HopscotchCourt$Court"), (Y.2.2.2.2, .long)]
theorem zws_at (Y : zY) (ad : Nat → Nat) (W : zWd) {k : Nat} (h : k < 129) : (zws Y ad W)[k]? = some (ad k, zc Y ad W k) := by
  simp [zws, h]
theorem zk_ge {k : Nat} (q : 129 ≤ k) : zk k = (14, 1) := by
  unfold zk
  rw [if_neg (by omega)]
  repeat rw [if_neg (by omega)]
theorem zk_lt {k ci n : Nat} (h : zk k = (ci, n)) (hc : ci ≠ 14) : k < 129 := by
  rcases Nat.lt_or_ge k 129 with q | q
  · exact q
  · rw [zk_ge q] at h
    exact absurd (congrArg Prod.fst h).symm hc
theorem zws_set (Y : zY) (ad : Nat → Nat) (W W' : zWd) {k : Nat} (h : k < 129) (e : va_E) (he : e = zc Y ad W' k) (ho : ∀ k', k' ≠ k → W' k' = W k') : (zws Y ad W).set k (ad k, e) = zws Y ad W' := by
  subst he
  apply List.ext_getElem?
  intro j
  rw [List.getElem?_set]
  by_cases hj : k = j
  · subst hj
    simp [zws, h]
  · rw [if_neg hj]
    simp only [zws, List.getElem?_map]
    by_cases h2 : j < 129
    · have e9 : W' j = W j := ho j (fun q => hj q.symm)
      rw [List.getElem?_range h2]
      simp only [Option.map_some]
      congr 2
      have e8 : zfv ad W' j = zfv ad W j := by funext i; simp only [zfv, e9]
      simp only [zc, e8, e9]
    · rw [List.getElem?_eq_none (by simp; omega)]
      rfl
theorem zup_other {W : zWd} {k : Nat} {i v : Int} : ∀ k', k' ≠ k → zup W k i v k' = W k' := fun k' h => by funext i'; exact zup_k h
theorem zc_obj (Y : zY) (ad : Nat → Nat) (W : zWd) {k ci : Nat} (h : zk k = (ci, 0)) (hc : ci < 8) : zc Y ad W k = .inr (ci, (List.range (znf ci)).map (zfv ad W k)) := by
  simp only [zc, h]
  rw [if_neg (by omega), if_neg (by omega), if_neg (by omega), if_neg (by omega), if_neg (by omega)]
theorem zc_int (Y : zY) (ad : Nat → Nat) (W : zWd) {k n : Nat} (h : zk k = (10, n)) : zc Y ad W k = .inl (Y.1, n, .inl (fun j => Int32.ofInt (W k j))) := by
  simp [zc, h]
theorem zc_byte (Y : zY) (ad : Nat → Nat) (W : zWd) {k n : Nat} (h : zk k = (11, n)) : zc Y ad W k = .inl (Y.2.1, n, .inl (fun j => Int32.ofInt (W k j))) := by
  simp [zc, h]
theorem zc_bool (Y : zY) (ad : Nat → Nat) (W : zWd) {k n : Nat} (h : zk k = (12, n)) : zc Y ad W k = .inl (Y.2.2.1, n, .inl (fun j => Int32.ofInt (W k j))) := by
  simp [zc, h]
theorem zc_refs (Y : zY) (ad : Nat → Nat) (W : zWd) {k n : Nat} (h : zk k = (13, n)) : zc Y ad W k = .inl (Y.2.2.2.1, n, .inr (.inr (.inr (.inr (fun j => (zr k j).map ad))))) := by
  simp [zc, h]
theorem zc_long (Y : zY) (ad : Nat → Nat) (W : zWd) {k n : Nat} (h : zk k = (14, n)) : zc Y ad W k = .inl (Y.2.2.2.2, n, .inr (.inl (fun j => (Int32.ofInt (W k j)).toInt64))) := by
  simp [zc, h]
theorem zk_len {k ci n : Nat} (h : zk k = (ci, n)) : n < 2147483648 := by
  have h8 : ∀ k, k < 129 → (zk k).2 < 2147483648 := by decide +kernel
  have h9 : (zk k).2 < 2147483648 := by
    rcases Nat.lt_or_ge k 129 with q | q
    · exact h8 k q
    · rw [zk_ge q]; decide
  rw [h] at h9
  exact h9
theorem zc_putF (Y : zY) (ad : Nat → Nat) (W : zWd) {k ci j : Nat} (h : zk k = (ci, 0)) (hc : ci < 8) (hj : j < znf ci) (hr : zr k j = none) (v : Int) : (.inr (ci, ((List.range (znf ci)).map (zfv ad W k)).set j (zI v)) : va_E) = zc Y ad (zup W k j v) k := by
  rw [zc_obj Y ad _ h hc]
  congr 2
  apply List.ext_getElem?
  intro i
  rw [List.getElem?_set]
  by_cases hi : j = i
  · subst hi
    simp [hj, zfv, hr, zup_s, zI]
  · rw [if_neg hi]
    simp only [List.getElem?_map]
    by_cases hi2 : i < znf ci
    · have h9 : zfv ad (zup W k j v) k i = zfv ad W k i := by
        simp only [zfv, zup_i (show (i : Int) ≠ (j : Int) by omega)]
      simp [hi2, h9]
    · rw [List.getElem?_eq_none (by simp; omega)]
      rfl
theorem z_updI (f : Int → Int) {i : Int} {n : Nat} (h0 : 0 ≤ i) (h1 : i < 2147483648) (v : Int) : upd (fun j => Int32.ofInt (f j)) (Int32.ofInt i).toNatClampNeg (Int32.ofInt v) = fun j : Nat => Int32.ofInt (if (j : Int) = i then v else f j) := by
  funext j
  rw [z_clamp h0 h1]
  unfold upd
  by_cases hj : j = i.toNat
  · rw [if_pos hj, if_pos (by omega)]
  · rw [if_neg hj, if_neg (by omega)]
theorem zc_putA (Y : zY) (ad : Nat → Nat) (W : zWd) {k n : Nat} (h : zk k = (10, n)) {i v : Int} (h0 : 0 ≤ i) (h1 : i < n) : (.inl (Y.1, n, .inl (upd (fun j => Int32.ofInt (W k j)) (Int32.ofInt i).toNatClampNeg (Int32.ofInt v))) : va_E) = zc Y ad (zup W k i v) k := by
  rw [zc_int Y ad _ h, z_updI (n := n) (fun j => W k j) h0 (by have := zk_len h; omega)]
  congr 5
  funext j
  simp [zup]
theorem zc_putB (Y : zY) (ad : Nat → Nat) (W : zWd) {k n : Nat} (h : zk k = (11, n)) {i v : Int} (h0 : 0 ≤ i) (h1 : i < n) : (.inl (Y.2.1, n, .inl (upd (fun j => Int32.ofInt (W k j)) (Int32.ofInt i).toNatClampNeg (Int32.ofInt v))) : va_E) = zc Y ad (zup W k i v) k := by
  rw [zc_byte Y ad _ h, z_updI (n := n) (fun j => W k j) h0 (by have := zk_len h; omega)]
  congr 5
  funext j
  simp [zup]
theorem zc_putZ (Y : zY) (ad : Nat → Nat) (W : zWd) {k n : Nat} (h : zk k = (12, n)) {i v : Int} (h0 : 0 ≤ i) (h1 : i < n) : (.inl (Y.2.2.1, n, .inl (upd (fun j => Int32.ofInt (W k j)) (Int32.ofInt i).toNatClampNeg (Int32.ofInt v))) : va_E) = zc Y ad (zup W k i v) k := by
  rw [zc_bool Y ad _ h, z_updI (n := n) (fun j => W k j) h0 (by have := zk_len h; omega)]
  congr 5
  funext j
  simp [zup]
theorem zc_putL (Y : zY) (ad : Nat → Nat) (W : zWd) {k n : Nat} (h : zk k = (14, n)) {i v : Int} (h0 : 0 ≤ i) (h1 : i < n) : (.inl (Y.2.2.2.2, n, .inr (.inl (vp_updL (fun j => (Int32.ofInt (W k j)).toInt64) (Int32.ofInt i).toNatClampNeg (Int32.ofInt v).toInt64))) : va_E) = zc Y ad (zup W k i v) k := by
  rw [zc_long Y ad _ h, z_clamp h0 (by have := zk_len h; omega)]
  congr 6
  funext j
  unfold vp_updL
  by_cases hj : j = i.toNat
  · rw [if_pos hj, show (j : Int) = i by omega, zup_s]
  · rw [if_neg hj, zup_i (by omega)]
/-! places: a list of values, .null where nothing is known -/
def zt (ad : Nat → Nat) : Value → Value
  | .ref k => .ref (ad k)
  | v => v
def zts (ad : Nat → Nat) : List Value → List Value
  | [] => []
  | v :: t => zt ad v :: zts ad t
def zg : List Value → Nat → Value
  | [], _ => .null
  | v :: _, 0 => v
  | _ :: t, n + 1 => zg t n
def zs : List Value → Nat → Value → List Value
  | [], _, _ => []
  | _ :: t, 0, x => x :: t
  | v :: t, n + 1, x => v :: zs t n x
def zl (ad : Nat → Nat) : Nat → List Value → List (Nat × Value)
  | _, [] => []
  | i, .int x :: t => (i, .int x) :: zl ad (i + 1) t
  | i, .ref k :: t => (i, .ref (ad k)) :: zl ad (i + 1) t
  | i, _ :: t => zl ad (i + 1) t
theorem zl_cat (ad : Nat → Nat) : ∀ (l : List Value) (i : Nat), ∀ q ∈ zl ad i l, i ≤ q.1 ∧ q.2.category = 1 := by
  intro l
  induction l with
  | nil => intro i q h; cases h
  | cons v t ih =>
    intro i q h
    have far : q ∈ zl ad (i + 1) t → i ≤ q.1 ∧ q.2.category = 1 := fun h => ⟨by have := (ih _ q h).1; omega, (ih _ q h).2⟩
    cases v with
    | int x =>
      rcases List.mem_cons.mp h with rfl | h
      · exact ⟨Nat.le_refl _, rfl⟩
      · exact far h
    | ref k =>
      rcases List.mem_cons.mp h with rfl | h
      · exact ⟨Nat.le_refl _, rfl⟩
      · exact far h
    | _ => exact far h
theorem zl_get (ad : Nat → Nat) : ∀ (l : List Value) (i k : Nat) (v : Value), zg l k = v → (∃ x, v = .int x) ∨ (∃ x, v = .ref x) → (i + k, zt ad v) ∈ zl ad i l := by
  intro l
  induction l with
  | nil =>
    intro i k v h hv
    subst h
    rcases hv with ⟨x, h⟩ | ⟨x, h⟩ <;> cases h
  | cons w t ih =>
    intro i k v h hv
    cases k with
    | zero =>
      subst h
      rcases hv with ⟨x, h⟩ | ⟨x, h⟩
      · have h : w = .int x := h
        subst h; exact List.mem_cons_self
      · have h : w = .ref x := h
        subst h; exact List.mem_cons_self
    | succ k =>
      have h9 := ih (i + 1) k v h hv
      rw [show i + 1 + k = i + (k + 1) by omega] at h9
      cases w <;> first | exact List.mem_cons_of_mem _ h9 | exact h9
theorem zl_set (ad : Nat → Nat) (x : Value) : ∀ (l : List Value) (i k : Nat) (q : Nat × Value), q ∈ zl ad i (zs l k x) → q = (i + k, zt ad x) ∨ (q ∈ zl ad i l ∧ q.1 ≠ i + k) := by
  intro l
  induction l with
  | nil => intro i k q h; cases h
  | cons w t ih =>
    intro i k q h
    cases k with
    | zero =>
      have far : q ∈ zl ad (i + 1) t → q ∈ zl ad i (w :: t) ∧ q.1 ≠ i + 0 := fun hh =>
        ⟨by clear h; cases w <;> first | exact List.mem_cons_of_mem _ hh | exact hh, by have := (zl_cat ad t _ q hh).1; omega⟩
      cases x with
      | int x =>
        rcases List.mem_cons.mp h with rfl | h
        · exact Or.inl rfl
        · exact Or.inr (far h)
      | ref x =>
        rcases List.mem_cons.mp h with rfl | h
        · exact Or.inl rfl
        · exact Or.inr (far h)
      | _ => exact Or.inr (far h)
    | succ k =>
      have far : q ∈ zl ad (i + 1) (zs t k x) → q = (i + (k + 1), zt ad x) ∨ (q ∈ zl ad (i + 1) t ∧ q.1 ≠ i + (k + 1)) := fun h => by
        have h9 := ih (i + 1) k q h
        rw [show i + 1 + k = i + (k + 1) by omega] at h9
        exact h9
      cases w with
      | int z =>
        rcases List.mem_cons.mp h with rfl | h
        · exact Or.inr ⟨List.mem_cons_self, by simp⟩
        · exact (far h).imp_right fun ⟨a, b⟩ => ⟨List.mem_cons_of_mem _ a, b⟩
      | ref z =>
        rcases List.mem_cons.mp h with rfl | h
        · exact Or.inr ⟨List.mem_cons_self, by simp⟩
        · exact (far h).imp_right fun ⟨a, b⟩ => ⟨List.mem_cons_of_mem _ a, b⟩
      | _ => exact far h
theorem zl_at {ad : Nat → Nat} {ls : List Value} {lsA : Array Slot} {n k : Nat} {x : Int32} (hl : lv_has lsA n (zl ad 0 ls)) (hg : zg ls k = .int x) : lsA[k]? = some (.val (.int x)) := by
  have h := zl_get ad ls 0 k _ hg (Or.inl ⟨_, rfl⟩)
  rw [Nat.zero_add] at h
  exact hl.2.2 _ h
theorem zl_atR {ad : Nat → Nat} {ls : List Value} {lsA : Array Slot} {n k r : Nat} (hl : lv_has lsA n (zl ad 0 ls)) (hg : zg ls k = .ref r) : lsA[k]? = some (.val (.ref (ad r))) := by
  have h := zl_get ad ls 0 k _ hg (Or.inr ⟨_, rfl⟩)
  rw [Nat.zero_add] at h
  exact hl.2.2 _ h
theorem zl_put {ad : Nat → Nat} {ls : List Value} {lsA : Array Slot} {n k : Nat} {x : Value} (hl : lv_has lsA n ((k, zt ad x) :: (zl ad 0 ls).filter (fun q => !(q.1 == k) && !(q.1 + 1 == k && q.2.category == 2)))) : lv_has lsA n (zl ad 0 (zs ls k x)) := by
  refine ⟨hl.1, hl.2.1, fun q hq => hl.2.2 q ?_⟩
  rcases zl_set ad x ls 0 k q hq with h | ⟨h1, h2⟩
  · rw [h, Nat.zero_add]; exact List.mem_cons_self
  · refine List.mem_cons_of_mem _ (List.mem_filter.mpr ⟨h1, ?_⟩)
    rw [Nat.zero_add] at h2
    rw [(zl_cat ad ls 0 q h1).2]
    simp [h2]
