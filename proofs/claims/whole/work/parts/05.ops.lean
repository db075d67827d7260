theorem zts_cat (ad : Nat → Nat) (l : List Value) : ((zts ad l).map fun v => v.category).sum = (l.map fun v => v.category).sum := by
  induction l with
  | nil => rfl
  | cons v t ih =>
    have h9 : (zt ad v).category = v.category := by cases v <;> rfl
    simp [zts, h9, ih]
theorem z_bv (a : Int) : (Int32.ofInt a).toBitVec.toNat = (a % 4294967296).toNat := by
  show (BitVec.ofInt 32 a).toNat = _
  rw [BitVec.toNat_ofInt]
  rfl
theorem z_ext {x y : Int32} (h : x.toBitVec.toNat = y.toBitVec.toNat) : x = y := Int32.toBitVec_inj.mp (BitVec.eq_of_toNat_eq h)
theorem z_and31 {b : Int} (h0 : 0 ≤ b) (h1 : b < 32) : Int32.ofInt b &&& 31 = nI b.toNat := by
  rw [pk_and _ 5 (m := 31) (by decide), z_bv]
  congr 1
  omega
theorem z_smod : ∀ k, k < 32 → ((nI k).toBitVec.smod 32).toNat = k := by decide +kernel
theorem z_shl {a b : Int} (h0 : 0 ≤ b) (h1 : b < 32) : Int32.ofInt a <<< (Int32.ofInt b &&& 31) = Int32.ofInt (a * 2 ^ b.toNat) := by
  rw [z_and31 h0 h1]
  apply z_ext
  rw [pk_shl _ _ b.toNat (z_smod _ (by omega)), z_bv, z_bv]
  have h9 : ((a % 4294967296).toNat : Int) = a % 4294967296 := Int.toNat_of_nonneg (by omega)
  have h8 : (((a % 4294967296).toNat * 2 ^ b.toNat % 2 ^ 32 : Nat) : Int) = (((a * 2 ^ b.toNat) % 4294967296).toNat : Int) := by
    rw [Int.toNat_of_nonneg (by omega), Int.natCast_emod, Int.natCast_mul, h9, Int.natCast_pow]
    show (a % 4294967296 * 2 ^ b.toNat) % 4294967296 = _
    rw [Int.mul_emod, Int.emod_emod_of_dvd _ (Int.dvd_refl _), ← Int.mul_emod]
  exact Int.ofNat.inj h8
theorem z_shr {a b : Int} (ha : zR a) (h0 : 0 ≤ b) (h1 : b < 32) : Int32.ofInt a >>> (Int32.ofInt b &&& 31) = Int32.ofInt (a / 2 ^ b.toNat) := by
  rw [z_and31 h0 h1]
  have h9 := pk_shr (Int32.ofInt a) (nI b.toNat) b.toNat (z_smod _ (by omega))
  rw [zR_toInt ha, Int.shiftRight_eq_div_pow] at h9
  rw [← z_back (Int32.ofInt a >>> nI b.toNat), h9]
  rfl
theorem z_nat {n : Nat} (h : n < 4294967296) : (Int32.ofInt (n : Int)).toBitVec.toNat = n := by
  rw [z_bv]; omega
theorem z_and {m n : Nat} (hm : m < 4294967296) (hn : n < 4294967296) : Int32.ofInt (m : Int) &&& Int32.ofInt (n : Int) = Int32.ofInt ((m &&& n : Nat) : Int) := by
  apply z_ext
  rw [Int32.toBitVec_and, BitVec.toNat_and, z_nat hm, z_nat hn, z_nat (Nat.lt_of_le_of_lt Nat.and_le_left hm)]
theorem z_or {m n : Nat} (hm : m < 4294967296) (hn : n < 4294967296) : Int32.ofInt (m : Int) ||| Int32.ofInt (n : Int) = Int32.ofInt ((m ||| n : Nat) : Int) := by
  apply z_ext
  rw [Int32.toBitVec_or, BitVec.toNat_or, z_nat hm, z_nat hn, z_nat (Nat.or_lt_two_pow (n := 32) hm hn)]
theorem z_not {n : Nat} (hn : n < 4294967296) : Int32.ofInt (n : Int) ^^^ Int32.ofInt (-1) = Int32.ofInt (-1 - (n : Int)) := by
  apply z_ext
  rw [Int32.toBitVec_xor, BitVec.toNat_xor, z_nat hn, z_bv, z_bv]
  apply Nat.eq_of_testBit_eq
  intro i
  have e1 : ((-1 : Int) % 4294967296).toNat = 2 ^ 32 - (0 + 1) := by decide
  have e2 : ((-1 - (n : Int)) % 4294967296).toNat = 2 ^ 32 - (n + 1) := by omega
  rw [e1, e2, Nat.testBit_xor, Nat.testBit_two_pow_sub_succ (by decide), Nat.testBit_two_pow_sub_succ hn]
  by_cases hi : i < 32
  · simp [hi]
  · have : n.testBit i = false := Nat.testBit_lt_two_pow (Nat.lt_of_lt_of_le hn (Nat.pow_le_pow_right (n := 2) (by decide) (by omega : 32 ≤ i)))
    simp [hi, this]
theorem z_andnot {m n : Nat} (hm : m < 4294967296) (hn : n < 4294967296) : Int32.ofInt (m : Int) &&& Int32.ofInt (-1 - (n : Int)) = Int32.ofInt ((m ^^^ (m &&& n) : Nat) : Int) := by
  have hlt : m ^^^ (m &&& n) < 4294967296 := Nat.xor_lt_two_pow (n := 32) hm (Nat.lt_of_le_of_lt Nat.and_le_left hm)
  apply z_ext
  rw [Int32.toBitVec_and, BitVec.toNat_and, z_nat hm, z_bv, z_nat hlt]
  apply Nat.eq_of_testBit_eq
  intro i
  have e2 : ((-1 - (n : Int)) % 4294967296).toNat = 2 ^ 32 - (n + 1) := by omega
  rw [e2, Nat.testBit_and, Nat.testBit_two_pow_sub_succ hn, Nat.testBit_xor, Nat.testBit_and]
  by_cases hi : i < 32
  · cases m.testBit i <;> cases n.testBit i <;> simp [hi]
  · have : m.testBit i = false := Nat.testBit_lt_two_pow (Nat.lt_of_lt_of_le hm (Nat.pow_le_pow_right (n := 2) (by decide) (by omega : 32 ≤ i)))
    simp [hi, this]
theorem z_mask (a : Int) (k : Nat) (hk : k < 32) {m : Int} (hm : m = 2 ^ k - 1) : Int32.ofInt a &&& Int32.ofInt m = Int32.ofInt (a % 2 ^ k) := by
  have hm2 : (Int32.ofInt m).toBitVec.toNat = 2 ^ k - 1 := by
    rw [z_bv, hm]
    have h1 : (2 : Int) ^ k = ((2 ^ k : Nat) : Int) := (Int.natCast_pow 2 k).symm
    have h2 : 2 ^ k < 4294967296 := Nat.pow_lt_pow_right (a := 2) (by decide) hk
    have h3 : 0 < 2 ^ k := Nat.two_pow_pos k
    rw [h1]; omega
  rw [pk_and _ k hm2, z_bv]
  have h1 : (2 : Int) ^ k = ((2 ^ k : Nat) : Int) := (Int.natCast_pow 2 k).symm
  have h3 : 0 < 2 ^ k := Nat.two_pow_pos k
  have hd : ((2 ^ k : Nat) : Int) ∣ 4294967296 := by
    refine ⟨((2 ^ (32 - k) : Nat) : Int), ?_⟩
    rw [← Int.natCast_mul, ← Nat.pow_add, show k + (32 - k) = 32 by omega]
    rfl
  have h5 : (((a % 4294967296).toNat % 2 ^ k : Nat) : Int) = a % 2 ^ k := by
    rw [Int.natCast_emod, Int.toNat_of_nonneg (by omega), Int.emod_emod_of_dvd _ hd, h1]
  show Int32.ofNat _ = _
  rw [← h5]
  rfl
theorem z_i2b (a : Int) : (Int32.ofInt a).toInt8.toInt32 = Int32.ofInt (a.bmod 256) := by
  apply Int32.toInt_inj.mp
  have hb : zR (a.bmod 256) := by
    have h1 := Int.le_bmod (x := a) (m := 256) (by decide)
    have h2 := Int.bmod_lt (x := a) (m := 256) (by decide)
    constructor <;> omega
  rw [zR_toInt hb, Int8.toInt_toInt32, Int32.toInt_toInt8, Int32.toInt_ofInt]
  exact Int.bmod_bmod_of_dvd (by decide)
theorem z_tdiv {a b : Int} (ha : 0 ≤ a) (hb : 0 < b) (ha2 : a < 2147483648) (hb2 : b < 2147483648) : Int32.ofInt a / Int32.ofInt b = Int32.ofInt (a / b) := by
  obtain ⟨m, rfl⟩ := Int.eq_ofNat_of_zero_le ha
  obtain ⟨n, rfl⟩ := Int.eq_ofNat_of_zero_le (Int.le_of_lt hb)
  have h := pk_div (a := m) (d := n) (by omega) (by omega) (by omega)
  exact h
theorem z_trem {a b : Int} (ha : 0 ≤ a) (hb : 0 < b) (ha2 : a < 2147483648) (hb2 : b < 2147483648) : Int32.ofInt a - Int32.ofInt a / Int32.ofInt b * Int32.ofInt b = Int32.ofInt (a % b) := by
  obtain ⟨m, rfl⟩ := Int.eq_ofNat_of_zero_le ha
  obtain ⟨n, rfl⟩ := Int.eq_ofNat_of_zero_le (Int.le_of_lt hb)
  have h := pk_rem (a := m) (d := n) (by omega) (by omega) (by omega)
  exact h
theorem z_ne0 {b : Int} (hb : zR b) (h : b ≠ 0) : ¬ Int32.ofInt b = 0 := fun q => h ((zR_eq hb zR_zero).mp q)
section ZB
variable {M : zM} {d t : Nat} {W₀ : zWd} {pc : Nat} {ls st : List Value} {K : zK} {X : zX}
theorem rr_ishl {a b : Int} (hd : decode M.2.1 pc = .ok (.ishl, 1)) (h0 : 0 ≤ b) (h1 : b < 32) (k : RR M d t W₀ (pc + 1) ls (zI (a * 2 ^ b.toNat) :: st) K X) : RR M d t W₀ pc ls (zI b :: zI a :: st) K X := by
  intro p l e R s m args below meth c cells slots Q D Y ad A hC hK hX H locs lsA hP hS hl
  have h9 := k p l e R s m args below meth c cells slots Q D Y ad A hC hK hX H locs lsA hP hS hl
  unfold zI at h9
  rw [← z_shl h0 h1] at h9
  exact lv_ishl hC.1.1 hC.1.2.1 hd h9
theorem rr_ishr {a b : Int} (hd : decode M.2.1 pc = .ok (.ishr, 1)) (ha : zR a) (h0 : 0 ≤ b) (h1 : b < 32) (k : RR M d t W₀ (pc + 1) ls (zI (a / 2 ^ b.toNat) :: st) K X) : RR M d t W₀ pc ls (zI b :: zI a :: st) K X := by
  intro p l e R s m args below meth c cells slots Q D Y ad A hC hK hX H locs lsA hP hS hl
  have h9 := k p l e R s m args below meth c cells slots Q D Y ad A hC hK hX H locs lsA hP hS hl
  unfold zI at h9
  rw [← z_shr ha h0 h1] at h9
  exact lv_ishr hC.1.1 hC.1.2.1 hd h9
theorem rr_iand {m n : Nat} (hd : decode M.2.1 pc = .ok (.iand, 1)) (hm : m < 4294967296) (hn : n < 4294967296) (k : RR M d t W₀ (pc + 1) ls (zI ((m &&& n : Nat) : Int) :: st) K X) : RR M d t W₀ pc ls (zI (n : Int) :: zI (m : Int) :: st) K X := by
  intro p l e R s m args below meth c cells slots Q D Y ad A hC hK hX H locs lsA hP hS hl
  have h9 := k p l e R s m args below meth c cells slots Q D Y ad A hC hK hX H locs lsA hP hS hl
  unfold zI at h9
  rw [← z_and hm hn] at h9
  exact lv_iand hC.1.1 hC.1.2.1 hd h9
theorem rr_iandm {a b : Int} (j : Nat) (hd : decode M.2.1 pc = .ok (.iand, 1)) (hj : j < 32) (hb : b = 2 ^ j - 1) (k : RR M d t W₀ (pc + 1) ls (zI (a % 2 ^ j) :: st) K X) : RR M d t W₀ pc ls (zI b :: zI a :: st) K X := by
  intro p l e R s m args below meth c cells slots Q D Y ad A hC hK hX H locs lsA hP hS hl
  have h9 := k p l e R s m args below meth c cells slots Q D Y ad A hC hK hX H locs lsA hP hS hl
  unfold zI at h9
  rw [← z_mask a j hj hb] at h9
  exact lv_iand hC.1.1 hC.1.2.1 hd h9
theorem rr_iandn {m n : Nat} (hd : decode M.2.1 pc = .ok (.iand, 1)) (hm : m < 4294967296) (hn : n < 4294967296) (k : RR M d t W₀ (pc + 1) ls (zI ((m ^^^ (m &&& n) : Nat) : Int) :: st) K X) : RR M d t W₀ pc ls (zI (-1 - (n : Int)) :: zI (m : Int) :: st) K X := by
  intro p l e R s m args below meth c cells slots Q D Y ad A hC hK hX H locs lsA hP hS hl
  have h9 := k p l e R s m args below meth c cells slots Q D Y ad A hC hK hX H locs lsA hP hS hl
  unfold zI at h9
  rw [← z_andnot hm hn] at h9
  exact lv_iand hC.1.1 hC.1.2.1 hd h9
theorem rr_ior {m n : Nat} (hd : decode M.2.1 pc = .ok (.ior, 1)) (hm : m < 4294967296) (hn : n < 4294967296) (k : RR M d t W₀ (pc + 1) ls (zI ((m ||| n : Nat) : Int) :: st) K X) : RR M d t W₀ pc ls (zI (n : Int) :: zI (m : Int) :: st) K X := by
  intro p l e R s m args below meth c cells slots Q D Y ad A hC hK hX H locs lsA hP hS hl
  have h9 := k p l e R s m args below meth c cells slots Q D Y ad A hC hK hX H locs lsA hP hS hl
  unfold zI at h9
  rw [← z_or hm hn] at h9
  exact lv_ior hC.1.1 hC.1.2.1 hd h9
theorem rr_inot {n : Nat} (hd : decode M.2.1 pc = .ok (.ixor, 1)) (hn : n < 4294967296) (k : RR M d t W₀ (pc + 1) ls (zI (-1 - (n : Int)) :: st) K X) : RR M d t W₀ pc ls (zI (-1) :: zI (n : Int) :: st) K X := by
  intro p l e R s m args below meth c cells slots Q D Y ad A hC hK hX H locs lsA hP hS hl
  have h9 := k p l e R s m args below meth c cells slots Q D Y ad A hC hK hX H locs lsA hP hS hl
  unfold zI at h9
  rw [← z_not hn] at h9
  exact lv_ixor hC.1.1 hC.1.2.1 hd h9
theorem rr_i2b {a : Int} (hd : decode M.2.1 pc = .ok (.i2b, 1)) (k : RR M d t W₀ (pc + 1) ls (zI (a.bmod 256) :: st) K X) : RR M d t W₀ pc ls (zI a :: st) K X := by
  intro p l e R s m args below meth c cells slots Q D Y ad A hC hK hX H locs lsA hP hS hl
  exact lv_i2b hC.1.1 hC.1.2.1 hd (z_i2b a) (k p l e R s m args below meth c cells slots Q D Y ad A hC hK hX H locs lsA hP hS hl)
theorem rr_idiv {a b : Int} (hd : decode M.2.1 pc = .ok (.idiv, 1)) (ha : 0 ≤ a) (hb : 0 < b) (ha2 : a < 2147483648) (hb2 : b < 2147483648) (k : RR M d t W₀ (pc + 1) ls (zI (a / b) :: st) K X) : RR M d t W₀ pc ls (zI b :: zI a :: st) K X := by
  intro p l e R s m args below meth c cells slots Q D Y ad A hC hK hX H locs lsA hP hS hl
  have h9 := k p l e R s m args below meth c cells slots Q D Y ad A hC hK hX H locs lsA hP hS hl
  unfold zI at h9
  rw [← z_tdiv ha hb ha2 hb2] at h9
  exact lv_idiv hC.1.1 hC.1.2.1 hd (z_ne0 ⟨by omega, hb2⟩ (by omega)) h9
/-- any int by a number that isn't 0: something comes -/
theorem rr_idivx {a b : Int} (hd : decode M.2.1 pc = .ok (.idiv, 1)) (hb : b ≠ 0) (hb2 : zR b) (k : ∀ q : Int, zR q → RR M d t W₀ (pc + 1) ls (zI q :: st) K X) : RR M d t W₀ pc ls (zI b :: zI a :: st) K X := by
  intro p l e R s m args below meth c cells slots Q D Y ad A hC hK hX H locs lsA hP hS hl
  have h9 := k (Int32.ofInt a / Int32.ofInt b).toInt (zR_of _) p l e R s m args below meth c cells slots Q D Y ad A hC hK hX H locs lsA hP hS hl
  unfold zI at h9
  rw [z_back] at h9
  exact lv_idiv hC.1.1 hC.1.2.1 hd (z_ne0 hb2 hb) h9
theorem rr_irem {a b : Int} (hd : decode M.2.1 pc = .ok (.irem, 1)) (ha : 0 ≤ a) (hb : 0 < b) (ha2 : a < 2147483648) (hb2 : b < 2147483648) (k : RR M d t W₀ (pc + 1) ls (zI (a % b) :: st) K X) : RR M d t W₀ pc ls (zI b :: zI a :: st) K X := by
  intro p l e R s m args below meth c cells slots Q D Y ad A hC hK hX H locs lsA hP hS hl
  have h9 := k p l e R s m args below meth c cells slots Q D Y ad A hC hK hX H locs lsA hP hS hl
  unfold zI at h9
  rw [← z_trem ha hb ha2 hb2] at h9
  exact lv_irem hC.1.1 hC.1.2.1 hd (z_ne0 ⟨by omega, hb2⟩ (by omega)) h9
theorem rr_tabI {dflt lo hi : Int} {offs : Array Int} {len : Nat} {a off : Int} {tgt : Nat} (hd : decode M.2.1 pc = .ok (.tableswitch dflt lo hi offs, len)) (ha : zR a) (h1 : lo ≤ a) (h2 : a ≤ hi) (ho : offs[(a - lo).toNat]? = some off) (ht : (pc : Int) + off = (tgt : Int)) (k : RR M d t W₀ tgt ls st K X) : RR M d t W₀ pc ls (zI a :: st) K X := by
  intro p l e R s m args below meth c cells slots Q D Y ad A hC hK hX H locs lsA hP hS hl
  exact lv_tableIn hC.1.1 hC.1.2.1 hd (by rw [zR_toInt ha]; omega) (by rw [zR_toInt ha]; omega) (by rw [zR_toInt ha]; exact ho) ht (k p l e R s m args below meth c cells slots Q D Y ad A hC hK hX H locs lsA hP hS hl)
theorem rr_tabO {dflt lo hi : Int} {offs : Array Int} {len : Nat} {a : Int} {tgt : Nat} (hd : decode M.2.1 pc = .ok (.tableswitch dflt lo hi offs, len)) (ha : zR a) (h : a < lo ∨ hi < a) (ht : (pc : Int) + dflt = (tgt : Int)) (k : RR M d t W₀ tgt ls st K X) : RR M d t W₀ pc ls (zI a :: st) K X := by
  intro p l e R s m args below meth c cells slots Q D Y ad A hC hK hX H locs lsA hP hS hl
  exact lv_tableOut hC.1.1 hC.1.2.1 hd (by rw [zR_toInt ha]; exact h) ht (k p l e R s m args below meth c cells slots Q D Y ad A hC hK hX H locs lsA hP hS hl)
theorem rr_ldc {index : Nat} {n : Int} (hd : decode M.2.1 pc = .ok (.ldc index, 2)) (hw : Cond.constant M.1 index (Int32.ofInt n) ∈ zWs) (k : RR M d t W₀ (pc + 2) ls (zI n :: st) K X) : RR M d t W₀ pc ls st K X := by
  intro p l e R s m args below meth c cells slots Q D Y ad A hC hK hX H locs lsA hP hS hl
  exact lv_ldc hC.1.1 hC.1.2.1 hC.1.2.2.2.1 (hC.1.2.2.2.2 _ (List.mem_cons_of_mem _ hw)) hd (k p l e R s m args below meth c cells slots Q D Y ad A hC hK hX H locs lsA hP hS hl)
theorem rr_ldcs {index : Nat} (i : Nat) {text : String} {codes : List Int} (hd : decode M.2.1 pc = .ok (.ldc index, 2)) (hi : zStrs[i]? = some (M.1, index, text, codes)) (k : RR M d t W₀ (pc + 2) ls (.ref (1000 + i) :: st) K X) : RR M d t W₀ pc ls st K X := by
  intro p l e R s m args below meth c cells slots Q D Y ad A hC hK hX H locs lsA hP hS hl
  obtain ⟨h1, h2, h3, h4, h5, h6, h7⟩ := id hC
  exact va_ldcS h1.1 h1.2.1 h1.2.2.2.1 (h6.2.2.2.2.1 i _ hi).1 hd (k p l e R s m args below meth c cells slots Q D Y ad A hC hK hX H locs lsA hP hS hl)
end ZB
