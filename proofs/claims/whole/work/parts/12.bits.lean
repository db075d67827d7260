/-! Integer.bitCount -/
section ZH
variable {M : zM} {d t : Nat} {W₀ : zWd} {pc : Nat} {ls st : List Value} {K : zK} {X : zX}
theorem z_ush : ∀ k, k < 32 → (((nI k).toUInt32 &&& Int32.toUInt32 31).toBitVec % 32).toNat = k := by decide +kernel
theorem rr_iushr {n k : Nat} (hd : decode M.2.1 pc = .ok (.iushr, 1)) (hn : n < 4294967296) (hk : k < 32) (kk : RR M d t W₀ (pc + 1) ls (zI ((n / 2 ^ k : Nat) : Int) :: st) K X) : RR M d t W₀ pc ls (zI (k : Int) :: zI (n : Int) :: st) K X := by
  intro p l e R s m args below meth c cells slots Q D Y ad A hC hK hX H locs lsA hP hS hl
  have h9 := kk p l e R s m args below meth c cells slots Q D Y ad A hC hK hX H locs lsA hP hS hl
  have e9 := pk_ushrN hn (nI k) k (z_ush k hk)
  unfold zI at h9
  rw [show Int32.ofInt ((n / 2 ^ k : Nat) : Int) = nI (n / 2 ^ k) from rfl, ← e9] at h9
  exact lv_iushr hC.1.1 hC.1.2.1 hd rfl h9
theorem rr_ldcw {index : Nat} {n : Int} (hd : decode M.2.1 pc = .ok (.ldc_w index, 3)) (hw : Cond.constant M.1 index (Int32.ofInt n) ∈ zWs) (k : RR M d t W₀ (pc + 3) ls (zI n :: st) K X) : RR M d t W₀ pc ls st K X := by
  intro p l e R s m args below meth c cells slots Q D Y ad A hC hK hX H locs lsA hP hS hl
  exact lv_ldcw hC.1.1 hC.1.2.1 hC.1.2.2.2.1 (hC.1.2.2.2.2 _ (List.mem_cons_of_mem _ hw)) hd (k p l e R s m args below meth c cells slots Q D Y ad A hC hK hX H locs lsA hP hS hl)
end ZH
def zb1 (n : Nat) : Nat := n - (n / 2 &&& 1431655765)
def zb2 (n : Nat) : Nat := (n &&& 858993459) + (n / 4 &&& 858993459)
def zb3 (n : Nat) : Nat := (n + n / 16) &&& 252645135
def zPc (n : Nat) : Nat := (zb3 (zb2 (zb1 n)) + zb3 (zb2 (zb1 n)) / 256 + (zb3 (zb2 (zb1 n)) + zb3 (zb2 (zb1 n)) / 256) / 65536) &&& 63
theorem zb1_le (n : Nat) : (n / 2 &&& 1431655765) ≤ n := Nat.le_trans Nat.and_le_left (Nat.div_le_self _ _)
theorem zb2_lt (n : Nat) : zb2 n ≤ 1717986918 := by
  have h1 : n &&& 858993459 ≤ 858993459 := Nat.and_le_right
  have h2 : n / 4 &&& 858993459 ≤ 858993459 := Nat.and_le_right
  unfold zb2; omega
theorem zb3_lt (n : Nat) : zb3 n ≤ 252645135 := Nat.and_le_right
theorem z_sub {m n : Nat} (h : n ≤ m) : (m : Int) - (n : Int) = ((m - n : Nat) : Int) := by omega

theorem dJ6_bitCount_0f7a4_0 : decode cJ6_bitCount_0f7a4 0 = .ok (.iload_n 0, 1) := by decide +kernel
theorem dJ6_bitCount_0f7a4_1 : decode cJ6_bitCount_0f7a4 1 = .ok (.iload_n 0, 1) := by decide +kernel
theorem dJ6_bitCount_0f7a4_2 : decode cJ6_bitCount_0f7a4 2 = .ok (.iconst 1, 1) := by decide +kernel
theorem dJ6_bitCount_0f7a4_3 : decode cJ6_bitCount_0f7a4 3 = .ok (.iushr, 1) := by decide +kernel
theorem dJ6_bitCount_0f7a4_4 : decode cJ6_bitCount_0f7a4 4 = .ok (.ldc_w 265, 3) := by decide +kernel
theorem dJ6_bitCount_0f7a4_7 : decode cJ6_bitCount_0f7a4 7 = .ok (.iand, 1) := by decide +kernel
theorem dJ6_bitCount_0f7a4_8 : decode cJ6_bitCount_0f7a4 8 = .ok (.isub, 1) := by decide +kernel
theorem dJ6_bitCount_0f7a4_9 : decode cJ6_bitCount_0f7a4 9 = .ok (.istore_n 0, 1) := by decide +kernel
theorem dJ6_bitCount_0f7a4_10 : decode cJ6_bitCount_0f7a4 10 = .ok (.iload_n 0, 1) := by decide +kernel
theorem dJ6_bitCount_0f7a4_11 : decode cJ6_bitCount_0f7a4 11 = .ok (.ldc_w 266, 3) := by decide +kernel
theorem dJ6_bitCount_0f7a4_14 : decode cJ6_bitCount_0f7a4 14 = .ok (.iand, 1) := by decide +kernel
theorem dJ6_bitCount_0f7a4_15 : decode cJ6_bitCount_0f7a4 15 = .ok (.iload_n 0, 1) := by decide +kernel
theorem dJ6_bitCount_0f7a4_16 : decode cJ6_bitCount_0f7a4 16 = .ok (.iconst 2, 1) := by decide +kernel
theorem dJ6_bitCount_0f7a4_17 : decode cJ6_bitCount_0f7a4 17 = .ok (.iushr, 1) := by decide +kernel
theorem dJ6_bitCount_0f7a4_18 : decode cJ6_bitCount_0f7a4 18 = .ok (.ldc_w 266, 3) := by decide +kernel
theorem dJ6_bitCount_0f7a4_21 : decode cJ6_bitCount_0f7a4 21 = .ok (.iand, 1) := by decide +kernel
theorem dJ6_bitCount_0f7a4_22 : decode cJ6_bitCount_0f7a4 22 = .ok (.iadd, 1) := by decide +kernel
theorem dJ6_bitCount_0f7a4_23 : decode cJ6_bitCount_0f7a4 23 = .ok (.istore_n 0, 1) := by decide +kernel
theorem dJ6_bitCount_0f7a4_24 : decode cJ6_bitCount_0f7a4 24 = .ok (.iload_n 0, 1) := by decide +kernel
theorem dJ6_bitCount_0f7a4_25 : decode cJ6_bitCount_0f7a4 25 = .ok (.iload_n 0, 1) := by decide +kernel
theorem dJ6_bitCount_0f7a4_26 : decode cJ6_bitCount_0f7a4 26 = .ok (.iconst 4, 1) := by decide +kernel
theorem dJ6_bitCount_0f7a4_27 : decode cJ6_bitCount_0f7a4 27 = .ok (.iushr, 1) := by decide +kernel
theorem dJ6_bitCount_0f7a4_28 : decode cJ6_bitCount_0f7a4 28 = .ok (.iadd, 1) := by decide +kernel
theorem dJ6_bitCount_0f7a4_29 : decode cJ6_bitCount_0f7a4 29 = .ok (.ldc_w 267, 3) := by decide +kernel
theorem dJ6_bitCount_0f7a4_32 : decode cJ6_bitCount_0f7a4 32 = .ok (.iand, 1) := by decide +kernel
theorem dJ6_bitCount_0f7a4_33 : decode cJ6_bitCount_0f7a4 33 = .ok (.istore_n 0, 1) := by decide +kernel
theorem dJ6_bitCount_0f7a4_34 : decode cJ6_bitCount_0f7a4 34 = .ok (.iload_n 0, 1) := by decide +kernel
theorem dJ6_bitCount_0f7a4_35 : decode cJ6_bitCount_0f7a4 35 = .ok (.iload_n 0, 1) := by decide +kernel
theorem dJ6_bitCount_0f7a4_36 : decode cJ6_bitCount_0f7a4 36 = .ok (.bipush 8, 2) := by decide +kernel
theorem dJ6_bitCount_0f7a4_38 : decode cJ6_bitCount_0f7a4 38 = .ok (.iushr, 1) := by decide +kernel
theorem dJ6_bitCount_0f7a4_39 : decode cJ6_bitCount_0f7a4 39 = .ok (.iadd, 1) := by decide +kernel
theorem dJ6_bitCount_0f7a4_40 : decode cJ6_bitCount_0f7a4 40 = .ok (.istore_n 0, 1) := by decide +kernel
theorem dJ6_bitCount_0f7a4_41 : decode cJ6_bitCount_0f7a4 41 = .ok (.iload_n 0, 1) := by decide +kernel
theorem dJ6_bitCount_0f7a4_42 : decode cJ6_bitCount_0f7a4 42 = .ok (.iload_n 0, 1) := by decide +kernel
theorem dJ6_bitCount_0f7a4_43 : decode cJ6_bitCount_0f7a4 43 = .ok (.bipush 16, 2) := by decide +kernel
theorem dJ6_bitCount_0f7a4_45 : decode cJ6_bitCount_0f7a4 45 = .ok (.iushr, 1) := by decide +kernel
theorem dJ6_bitCount_0f7a4_46 : decode cJ6_bitCount_0f7a4 46 = .ok (.iadd, 1) := by decide +kernel
theorem dJ6_bitCount_0f7a4_47 : decode cJ6_bitCount_0f7a4 47 = .ok (.istore_n 0, 1) := by decide +kernel
theorem dJ6_bitCount_0f7a4_48 : decode cJ6_bitCount_0f7a4 48 = .ok (.iload_n 0, 1) := by decide +kernel
theorem dJ6_bitCount_0f7a4_49 : decode cJ6_bitCount_0f7a4 49 = .ok (.bipush 63, 2) := by decide +kernel
theorem dJ6_bitCount_0f7a4_51 : decode cJ6_bitCount_0f7a4 51 = .ok (.iand, 1) := by decide +kernel
theorem dJ6_bitCount_0f7a4_52 : decode cJ6_bitCount_0f7a4 52 = .ok (.ireturn, 1) := by decide +kernel
set_option maxRecDepth 4000 in
theorem eJ6_bitCount {W : zWd} {n : Nat} {Q : Option Value → zWd → Prop} {X : zX} (hn : n < 2097152) (hq : Q (some (zI (zPc n : Nat))) W) : Ev MJ6_bitCount_0f7a4 0 0 W [zI (n : Int)] Q X := by
  refine ev_of (ls := [zI (n : Int)]) (by decide) rfl (fun _ => rfl) (fun _ => Nat.le_of_ble_eq_true rfl) (Or.inl rfl) ?_
  unfold zPc at hq
  refine rr_iload_n (pc := 0) dJ6_bitCount_0f7a4_0 rfl ?_
  refine rr_iload_n (pc := 1) dJ6_bitCount_0f7a4_1 rfl ?_
  refine rr_iconst (n := 1) dJ6_bitCount_0f7a4_2 ?_
  refine rr_iushr (pc := 3) (k := 1) dJ6_bitCount_0f7a4_3 (by omega) (by decide) ?_
  refine rr_ldcw (pc := 4) dJ6_bitCount_0f7a4_4 cJ6_k265 ?_
  refine rr_iand (pc := 7) (n := 1431655765) dJ6_bitCount_0f7a4_7 (by omega) (by decide) ?_
  refine rr_isub (pc := 8) dJ6_bitCount_0f7a4_8 ?_
  rw [z_sub (zb1_le n)]
  show RR _ _ _ _ _ _ (zI ((zb1 n : Nat) : Int) :: []) _ _
  refine rr_istore_n (pc := 9) dJ6_bitCount_0f7a4_9 (by decide) ?_
  have h1 : zb1 n ≤ n := Nat.sub_le _ _
  generalize zb1 n = x1 at h1 hq ⊢
  refine rr_iload_n (pc := 10) dJ6_bitCount_0f7a4_10 rfl ?_
  refine rr_ldcw (pc := 11) dJ6_bitCount_0f7a4_11 cJ6_k266 ?_
  refine rr_iand (pc := 14) (n := 858993459) dJ6_bitCount_0f7a4_14 (by omega) (by decide) ?_
  refine rr_iload_n (pc := 15) dJ6_bitCount_0f7a4_15 rfl ?_
  refine rr_iconst (n := 2) dJ6_bitCount_0f7a4_16 ?_
  refine rr_iushr (pc := 17) (k := 2) dJ6_bitCount_0f7a4_17 (by omega) (by decide) ?_
  refine rr_ldcw (pc := 18) dJ6_bitCount_0f7a4_18 cJ6_k266 ?_
  refine rr_iand (pc := 21) (n := 858993459) dJ6_bitCount_0f7a4_21 (by omega) (by decide) ?_
  refine rr_iadd (pc := 22) dJ6_bitCount_0f7a4_22 ?_
  rw [← Int.natCast_add]
  show RR _ _ _ _ _ _ (zI ((zb2 x1 : Nat) : Int) :: []) _ _
  refine rr_istore_n (pc := 23) dJ6_bitCount_0f7a4_23 (by decide) ?_
  have h2 := zb2_lt x1
  generalize zb2 x1 = x2 at h2 hq ⊢
  refine rr_iload_n (pc := 24) dJ6_bitCount_0f7a4_24 rfl ?_
  refine rr_iload_n (pc := 25) dJ6_bitCount_0f7a4_25 rfl ?_
  refine rr_iconst (n := 4) dJ6_bitCount_0f7a4_26 ?_
  refine rr_iushr (pc := 27) (k := 4) dJ6_bitCount_0f7a4_27 (by omega) (by decide) ?_
  refine rr_iadd (pc := 28) dJ6_bitCount_0f7a4_28 ?_
  rw [← Int.natCast_add]
  refine rr_ldcw (pc := 29) dJ6_bitCount_0f7a4_29 cJ6_k267 ?_
  refine rr_iand (pc := 32) (n := 252645135) dJ6_bitCount_0f7a4_32 (by omega) (by decide) ?_
  show RR _ _ _ _ _ _ (zI ((zb3 x2 : Nat) : Int) :: []) _ _
  refine rr_istore_n (pc := 33) dJ6_bitCount_0f7a4_33 (by decide) ?_
  have h3 := zb3_lt x2
  generalize zb3 x2 = x3 at h3 hq ⊢
  refine rr_iload_n (pc := 34) dJ6_bitCount_0f7a4_34 rfl ?_
  refine rr_iload_n (pc := 35) dJ6_bitCount_0f7a4_35 rfl ?_
  refine rr_bipush (n := 8) dJ6_bitCount_0f7a4_36 ?_
  refine rr_iushr (pc := 38) (k := 8) dJ6_bitCount_0f7a4_38 (by omega) (by decide) ?_
  refine rr_iadd (pc := 39) dJ6_bitCount_0f7a4_39 ?_
  rw [← Int.natCast_add]
  generalize hx4 : x3 + x3 / 2 ^ 8 = x4
  have h4 : x4 ≤ 300000000 := by omega
  refine rr_istore_n (pc := 40) dJ6_bitCount_0f7a4_40 (by decide) ?_
  refine rr_iload_n (pc := 41) dJ6_bitCount_0f7a4_41 rfl ?_
  refine rr_iload_n (pc := 42) dJ6_bitCount_0f7a4_42 rfl ?_
  refine rr_bipush (n := 16) dJ6_bitCount_0f7a4_43 ?_
  refine rr_iushr (pc := 45) (k := 16) dJ6_bitCount_0f7a4_45 (by omega) (by decide) ?_
  refine rr_iadd (pc := 46) dJ6_bitCount_0f7a4_46 ?_
  rw [← Int.natCast_add]
  refine rr_istore_n (pc := 47) dJ6_bitCount_0f7a4_47 (by decide) ?_
  refine rr_iload_n (pc := 48) dJ6_bitCount_0f7a4_48 rfl ?_
  refine rr_bipush (n := 63) dJ6_bitCount_0f7a4_49 ?_
  refine rr_iand (pc := 51) (n := 63) dJ6_bitCount_0f7a4_51 (by omega) (by decide) ?_
  refine rr_reti (pc := 52) dJ6_bitCount_0f7a4_52 rfl rfl ?_ rfl hq
  rw [← hx4]
/-! it counts -/
def zBits (n : Nat) : Nat → Nat
  | 0 => 0
  | k + 1 => zBits n k + n / 2 ^ k % 2
theorem z_and8 {x y m k : Nat} (hx : x < 256) (hm : m < 256) : (x + 256 * y) &&& (m + 256 * k) = (x &&& m) + 256 * (y &&& k) := by
  apply Nat.eq_of_testBit_eq
  intro i
  have hxm : x &&& m < 2 ^ 8 := Nat.and_lt_two_pow _ hm
  rw [Nat.testBit_and, show x + 256 * y = 2 ^ 8 * y + x by omega, show m + 256 * k = 2 ^ 8 * k + m by omega, show (x &&& m) + 256 * (y &&& k) = 2 ^ 8 * (y &&& k) + (x &&& m) by omega,
    Nat.testBit_two_pow_mul_add _ hx, Nat.testBit_two_pow_mul_add _ hm, Nat.testBit_two_pow_mul_add _ hxm]
  by_cases h : i < 8
  · simp [h]
  · simp [h]
theorem z_and24 {x y z m k l j : Nat} (hx : x < 256) (hy : y < 256) (hz : z < 256) (hm : m < 256) (hk : k < 256) (hl : l < 256) : (x + 256 * (y + 256 * z)) &&& (m + 256 * (k + 256 * (l + 256 * j))) = (x &&& m) + 256 * ((y &&& k) + 256 * (z &&& l)) := by
  have e : z &&& (l + 256 * j) = z &&& l := by
    have h := z_and8 (x := z) (y := 0) (m := l) (k := j) hz hl
    rw [Nat.mul_zero, Nat.add_zero, Nat.zero_and, Nat.mul_zero, Nat.add_zero] at h
    exact h
  rw [z_and8 hx hm, z_and8 hy hk, e]
def zt1 (b : Nat) : Nat := b - (b / 2 &&& 85)
def zt2 (b : Nat) : Nat := (b &&& 51) + (b / 4 &&& 51)
def zt3 (b : Nat) : Nat := (b + b / 16) % 16
theorem zt1_a : ∀ b, b < 256 → ∀ z, z < 2 → (b / 2 + 128 * z) &&& 85 = b / 2 &&& 85 := by decide +kernel
theorem zt2_a : ∀ b, b < 256 → ∀ z, z < 4 → (b / 4 + 64 * z) &&& 51 = b / 4 &&& 51 := by decide +kernel
theorem zt3_a : ∀ b, b < 256 → ∀ z, z < 16 → b ≤ 68 → z ≤ 4 → (b + b / 16 + 16 * z) &&& 15 = zt3 b := by decide +kernel
theorem zt_b : ∀ b, b < 256 → (b / 2 &&& 85) ≤ b ∧ zt1 b < 256 ∧ zt2 (zt1 b) ≤ 68 ∧ zt2 (zt1 b) % 16 ≤ 4 ∧ zt3 (zt2 (zt1 b)) ≤ 8 ∧ zt3 (zt2 (zt1 b)) = zBits b 8 := by decide +kernel
theorem zb1_b {x y z : Nat} (hx : x < 256) (hy : y < 256) (hz : z < 256) : zb1 (x + 256 * (y + 256 * z)) = zt1 x + 256 * (zt1 y + 256 * zt1 z) := by
  have h1 : (x + 256 * (y + 256 * z)) / 2 = (x / 2 + 128 * (y % 2)) + 256 * ((y / 2 + 128 * (z % 2)) + 256 * (z / 2)) := by omega
  have hbx := (zt_b x hx).1
  have hby := (zt_b y hy).1
  have hbz := (zt_b z hz).1
  unfold zb1
  rw [h1, show 1431655765 = 85 + 256 * (85 + 256 * (85 + 256 * 85)) by rfl, z_and24 (by omega) (by omega) (by omega) (by omega) (by omega) (by omega), zt1_a x hx _ (by omega), zt1_a y hy _ (by omega)]
  unfold zt1
  omega
theorem zb2_b {x y z : Nat} (hx : x < 256) (hy : y < 256) (hz : z < 256) : zb2 (x + 256 * (y + 256 * z)) = zt2 x + 256 * (zt2 y + 256 * zt2 z) := by
  have h1 : (x + 256 * (y + 256 * z)) / 4 = (x / 4 + 64 * (y % 4)) + 256 * ((y / 4 + 64 * (z % 4)) + 256 * (z / 4)) := by omega
  unfold zb2
  rw [h1, show 858993459 = 51 + 256 * (51 + 256 * (51 + 256 * 51)) by rfl, z_and24 hx hy hz (by omega) (by omega) (by omega), z_and24 (by omega) (by omega) (by omega) (by omega) (by omega) (by omega), zt2_a x hx _ (by omega), zt2_a y hy _ (by omega)]
  unfold zt2
  omega
theorem zb3_b {x y z : Nat} (hx : x ≤ 68) (hy : y ≤ 68) (hz : z ≤ 68) (hy2 : y % 16 ≤ 4) (hz2 : z % 16 ≤ 4) : zb3 (x + 256 * (y + 256 * z)) = zt3 x + 256 * (zt3 y + 256 * zt3 z) := by
  have h1 : (x + 256 * (y + 256 * z)) + (x + 256 * (y + 256 * z)) / 16 = (x + x / 16 + 16 * (y % 16)) + 256 * ((y + y / 16 + 16 * (z % 16)) + 256 * (z + z / 16 + 16 * 0)) := by omega
  unfold zb3
  rw [h1, show 252645135 = 15 + 256 * (15 + 256 * (15 + 256 * 15)) by rfl, z_and24 (by omega) (by omega) (by omega) (by omega) (by omega) (by omega), zt3_a x (by omega) _ (by omega) hx hy2, zt3_a y (by omega) _ (by omega) hy hz2, zt3_a z (by omega) _ (by omega) hz (by omega)]
theorem zBits_add (x y : Nat) (hx : x < 256) : ∀ k, zBits (x + 256 * y) (8 + k) = zBits x 8 + zBits y k := by
  intro k
  induction k with
  | zero =>
    have h : ∀ j, j ≤ 8 → zBits (x + 256 * y) j = zBits x j := by
      intro j
      induction j with
      | zero => intro _; rfl
      | succ j ih =>
        intro hj
        have e : (x + 256 * y) / 2 ^ j % 2 = x / 2 ^ j % 2 := by
          have : ∀ j, j < 8 → ∃ q, 256 = 2 ^ j * (2 * q) := by
            intro j hj
            exact ⟨2 ^ (7 - j), by rw [← Nat.mul_assoc, Nat.mul_comm (2 ^ j) 2, ← Nat.pow_succ', ← Nat.pow_add, show j + 1 + (7 - j) = 8 by omega]⟩
          obtain ⟨q, hq⟩ := this j (by omega)
          rw [hq, Nat.mul_assoc, Nat.mul_assoc, Nat.add_mul_div_left _ _ (Nat.two_pow_pos j)]
          omega
        show zBits (x + 256 * y) j + _ = zBits x j + _
        rw [ih (by omega), e]
    rw [Nat.add_zero, h 8 (Nat.le_refl _)]; rfl
  | succ k ih =>
    show zBits (x + 256 * y) (8 + k) + (x + 256 * y) / 2 ^ (8 + k) % 2 = zBits x 8 + (zBits y k + y / 2 ^ k % 2)
    rw [ih, Nat.pow_add, ← Nat.div_div_eq_div_mul, show (x + 256 * y) / 2 ^ 8 = y by omega]
    omega
theorem zPc_bits {n : Nat} (hn : n < 16777216) : zPc n = zBits n 24 := by
  obtain ⟨x, y, z, hx, hy, hz, rfl⟩ : ∃ x y z, x < 256 ∧ y < 256 ∧ z < 256 ∧ n = x + 256 * (y + 256 * z) := ⟨n % 256, n / 256 % 256, n / 65536, by omega, by omega, by omega, by omega⟩
  obtain ⟨-, b1, b2, b3, b4, b5⟩ := zt_b x hx
  obtain ⟨-, c1, c2, c3, c4, c5⟩ := zt_b y hy
  obtain ⟨-, d1, d2, d3, d4, d5⟩ := zt_b z hz
  have e : zBits (x + 256 * (y + 256 * z)) 24 = zBits x 8 + (zBits y 8 + zBits z 8) := by
    rw [show 24 = 8 + (8 + 8) by rfl, zBits_add x _ hx, zBits_add y _ hy]
  unfold zPc
  rw [zb1_b hx hy hz, zb2_b b1 c1 d1, zb3_b b2 c2 d2 c3 d3, e, ← b5, ← c5, ← d5]
  generalize zt3 (zt2 (zt1 x)) = u at b4 ⊢
  generalize zt3 (zt2 (zt1 y)) = v at c4 ⊢
  generalize zt3 (zt2 (zt1 z)) = w at d4 ⊢
  rw [show (63 : Nat) = 2 ^ 6 - 1 by rfl, Nat.and_two_pow_sub_one_eq_mod]
  clear e b1 b2 b3 c1 c2 c3 d1 d2 d3 hn
  have h4 : (u + 256 * (v + 256 * w)) / 256 = v + 256 * w := by omega
  rw [h4]
  have h5 : (u + 256 * (v + 256 * w) + (v + 256 * w)) / 65536 = w := by omega
  rw [h5]
  omega
theorem zBits_hi {n k : Nat} (h : n < 2 ^ k) : ∀ j, zBits n (k + j) = zBits n k := by
  intro j
  induction j with
  | zero => rfl
  | succ j ih =>
    show zBits n (k + j) + n / 2 ^ (k + j) % 2 = _
    rw [ih, Nat.div_eq_of_lt (Nat.lt_of_lt_of_le h (Nat.pow_le_pow_right (by decide) (by omega)))]
    omega
theorem zPc_21 {n : Nat} (hn : n < 2097152) : zPc n = zBits n 21 := by
  rw [zPc_bits (by omega)]
  exact zBits_hi (k := 21) hn 3

