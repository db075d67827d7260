/-! the reference's reader: tokens -/
def sKd (B : Nat → Int) (N p : Nat) : Int := if N ≤ p then 3 else if fLe (B p) = true then 0 else if fDi (B p) = true then 1 else 2
def sEd (B : Nat → Int) (N p : Nat) : Nat := if N ≤ p then p else if fLe (B p) = true then sWe B N p else if fDi (B p) = true then sDe B N p else p + 1
def sNb (B : Nat → Int) (N p : Nat) : Int := if p < N ∧ fDi (B p) = true then sNv B N p else 0
def zMT (W : zWd) (B : Nat → Int) (N : Nat) : Prop := W 116 9 = N ∧ N ≤ 600 ∧ ∀ k : Nat, k < N → 1 ≤ B k ∧ B k ≤ 255 ∧ W 123 k = B k
def zMk (W : zWd) (B : Nat → Int) (N p : Nat) : Prop := W 116 10 = p ∧ p ≤ N ∧ W 116 11 = sEd B N p ∧ W 116 12 = sKd B N p ∧ W 116 13 = sNb B N p
def zOfr2 (W W' : zWd) : Prop := (∀ k : Nat, k ≠ 116 → W' k = W k) ∧ ∀ j : Int, (j < 10 ∨ 13 < j) → W' 116 j = W 116 j
theorem zOfr2.rf {W : zWd} : zOfr2 W W := ⟨fun _ _ => rfl, fun _ _ => rfl⟩
theorem zOfr2.tr {W W' W'' : zWd} (h : zOfr2 W W') (h2 : zOfr2 W' W'') : zOfr2 W W'' := ⟨fun k g => (h2.1 k g).trans (h.1 k g), fun j g => (h2.2 j g).trans (h.2 j g)⟩
theorem zOfr2.up {W W' : zWd} {i v : Int} (h : zOfr2 W W') (hi : 10 ≤ i ∧ i ≤ 13) : zOfr2 W (zup W' 116 i v) := ⟨fun k g => by rw [zup_other k g]; exact h.1 k g, fun j g => by rw [zup_i (by omega)]; exact h.2 j g⟩
theorem zMT.o {W W' : zWd} {B : Nat → Int} {N : Nat} (h : zMT W B N) (e9 : W' 116 9 = W 116 9) (e : W' 123 = W 123) : zMT W' B N := by
  unfold zMT at *; rw [e9, e]; exact h
theorem zMT.r {W W' : zWd} {B : Nat → Int} {N : Nat} (h : zMT W B N) (o : zOfr2 W W') : zMT W' B N := h.o (o.2 9 (by omega)) (o.1 123 (by decide))
theorem fSp_t {b : Int} : fSp b = true ↔ b = 32 := by unfold fSp; exact decide_eq_true_iff
theorem fLe_t {b : Int} : fLe b = true ↔ 97 ≤ b ∧ b ≤ 122 := by unfold fLe; exact decide_eq_true_iff
theorem fDi_t {b : Int} : fDi b = true ↔ 48 ≤ b ∧ b ≤ 57 := by unfold fDi; exact decide_eq_true_iff
theorem dX7_see_0 : decode cX7_see 0 = .ok (.iload_n 1, 1) := by decide +kernel
theorem dX7_see_1 : decode cX7_see 1 = .ok (.aload_n 0, 1) := by decide +kernel
theorem dX7_see_2 : decode cX7_see 2 = .ok (.getfield 81, 3) := by decide +kernel
theorem dX7_see_5 : decode cX7_see 5 = .ok (.if_icmp .ge 12, 3) := by decide +kernel
theorem dX7_see_8 : decode cX7_see 8 = .ok (.aload_n 0, 1) := by decide +kernel
theorem dX7_see_9 : decode cX7_see 9 = .ok (.getfield 29, 3) := by decide +kernel
theorem dX7_see_12 : decode cX7_see 12 = .ok (.iload_n 1, 1) := by decide +kernel
theorem dX7_see_13 : decode cX7_see 13 = .ok (.iaload, 1) := by decide +kernel
theorem dX7_see_14 : decode cX7_see 14 = .ok (.goto 4, 3) := by decide +kernel
theorem dX7_see_17 : decode cX7_see 17 = .ok (.iconst (-1), 1) := by decide +kernel
theorem dX7_see_18 : decode cX7_see 18 = .ok (.ireturn, 1) := by decide +kernel
theorem eX7_see {W : zWd} {B : Nat → Int} {N : Nat} {k : Nat}  {Q : Option Value → zWd → Prop} {X : zX} (hT : zMT W B N) (hk : k ≤ 1000) (hq : Q (some (zI (if k < N then B k else -1))) W) : Ev MX7_see 0 0 W [.ref 116, zI (k : Int)] Q X := by
  refine ev_of (ls := [.ref 116, zI (k : Int)]) (by decide) rfl (fun _ => rfl) (fun _ => Nat.le_of_ble_eq_true rfl) (Or.inl rfl) ?_
  obtain ⟨t9, t6, tB⟩ := id hT
  refine rr_iload_n (pc := 0) dX7_see_0 rfl ?_
  refine rr_aload_n (pc := 1) dX7_see_1 rfl ?_
  refine rr_getI (pc := 2) (ji := 9) dX7_see_2 fX7_81 zk_116 zr_116_9 rfl ?_
  rw [t9]
  refine rr_icmp_ge (pc := 5) (tgt := 17) dX7_see_5 (by decide) (by unfold zR; omega) (by unfold zR; omega) (fun h5 => ?_) (fun h5 => ?_)
  · refine rr_iconst (n := (-1)) dX7_see_17 ?_
    exact rr_reti (pc := 18) dX7_see_18 rfl rfl (if_neg (by omega)).symm rfl (hq)
  · refine rr_aload_n (pc := 8) dX7_see_8 rfl ?_
    refine rr_getR (pc := 9) dX7_see_9 fX7_29 zk_116 zr_116_8 ?_
    refine rr_iload_n (pc := 12) dX7_see_12 rfl ?_
    refine rr_iald (pc := 13) dX7_see_13 zk_123 (by omega) (by omega) ?_
    rw [(tB k (by omega)).2.2]
    refine rr_goto (pc := 14) (tgt := 18) dX7_see_14 (by decide) ?_
    exact rr_reti (pc := 18) dX7_see_18 rfl rfl (if_pos (by omega)).symm rfl (hq)
theorem z_sf {f : Int → Bool} {lo hi b : Int} {k N : Nat} (hf : f b = true ↔ lo ≤ b ∧ b ≤ hi) (h1 : 0 ≤ lo := by decide) : (if lo ≤ (if k < N then b else -1) ∧ (if k < N then b else -1) ≤ hi then (1 : Int) else 0) = if k < N ∧ f b = true then 1 else 0 := by
  by_cases g : k < N
  · rw [if_pos g]
    by_cases y : lo ≤ b ∧ b ≤ hi
    · rw [if_pos y, if_pos ⟨g, hf.mpr y⟩]
    · rw [if_neg y, if_neg (fun z => y (hf.mp z.2))]
  · rw [if_neg g, if_neg (by omega), if_neg (fun z => g z.1)]
theorem dX7_isLetter_0 : decode cX7_isLetter 0 = .ok (.aload_n 0, 1) := by decide +kernel
theorem dX7_isLetter_1 : decode cX7_isLetter 1 = .ok (.iload_n 1, 1) := by decide +kernel
theorem dX7_isLetter_2 : decode cX7_isLetter 2 = .ok (.invokevirtual 84, 3) := by decide +kernel
theorem dX7_isLetter_5 : decode cX7_isLetter 5 = .ok (.bipush 97, 2) := by decide +kernel
theorem dX7_isLetter_7 : decode cX7_isLetter 7 = .ok (.bipush 122, 2) := by decide +kernel
theorem dX7_isLetter_9 : decode cX7_isLetter 9 = .ok (.invokestatic 69, 3) := by decide +kernel
theorem dX7_isLetter_12 : decode cX7_isLetter 12 = .ok (.ireturn, 1) := by decide +kernel
theorem eX7_isLetter {W : zWd} {B : Nat → Int} {N : Nat} {k : Nat}  {Q : Option Value → zWd → Prop} {X : zX} (hT : zMT W B N) (hk : k ≤ 1000) (hq : Q (some (zI (if k < N ∧ fLe (B k) = true then 1 else 0))) W) : Ev MX7_isLetter 1 0 W [.ref 116, zI (k : Int)] Q X := by
  refine ev_of (ls := [.ref 116, zI (k : Int)]) (by decide) rfl (fun _ => rfl) (fun _ => Nat.le_of_ble_eq_true rfl) (Or.inl rfl) ?_
  obtain ⟨t9, t6, tB⟩ := id hT
  refine rr_aload_n (pc := 0) dX7_isLetter_0 rfl ?_
  refine rr_iload_n (pc := 1) dX7_isLetter_1 rfl ?_
  refine rr_inv0 (M' := MX7_see) (k := 116) (As := [_]) (pc := 2) dX7_isLetter_2 lX7_84 kX7_see vX7_see zk_116 (by decide) rfl (by decide) (by decide) (Nat.le_of_ble_eq_true rfl) rfl (eX7_see hT hk ?_)
  have hsr : -1 ≤ (if k < N then B k else -1) ∧ (if k < N then B k else -1) ≤ 255 := by
    split
    · rename_i g; have := tB k g; omega
    · omega
  refine rr_bipush (n := (97)) dX7_isLetter_5 ?_
  refine rr_bipush (n := (122)) dX7_isLetter_7 ?_
  refine rr_sta0 (M' := MX7_isIn) (As := [_, _, _]) (pc := 9) dX7_isLetter_9 lX7_69 kX7_isIn sX7_isIn (by decide) (by decide) (Nat.le_of_ble_eq_true rfl) rfl (eX7_isIn (by unfold zR; omega) (by unfold zR; omega) (by unfold zR; omega) ?_)
  exact rr_reti (pc := 12) dX7_isLetter_12 rfl z_nb (z_sf fLe_t) rfl (hq)
theorem dX7_isDigit_0 : decode cX7_isDigit 0 = .ok (.aload_n 0, 1) := by decide +kernel
theorem dX7_isDigit_1 : decode cX7_isDigit 1 = .ok (.iload_n 1, 1) := by decide +kernel
theorem dX7_isDigit_2 : decode cX7_isDigit 2 = .ok (.invokevirtual 84, 3) := by decide +kernel
theorem dX7_isDigit_5 : decode cX7_isDigit 5 = .ok (.bipush 48, 2) := by decide +kernel
theorem dX7_isDigit_7 : decode cX7_isDigit 7 = .ok (.bipush 57, 2) := by decide +kernel
theorem dX7_isDigit_9 : decode cX7_isDigit 9 = .ok (.invokestatic 69, 3) := by decide +kernel
theorem dX7_isDigit_12 : decode cX7_isDigit 12 = .ok (.ireturn, 1) := by decide +kernel
theorem eX7_isDigit {W : zWd} {B : Nat → Int} {N : Nat} {k : Nat}  {Q : Option Value → zWd → Prop} {X : zX} (hT : zMT W B N) (hk : k ≤ 1000) (hq : Q (some (zI (if k < N ∧ fDi (B k) = true then 1 else 0))) W) : Ev MX7_isDigit 1 0 W [.ref 116, zI (k : Int)] Q X := by
  refine ev_of (ls := [.ref 116, zI (k : Int)]) (by decide) rfl (fun _ => rfl) (fun _ => Nat.le_of_ble_eq_true rfl) (Or.inl rfl) ?_
  obtain ⟨t9, t6, tB⟩ := id hT
  refine rr_aload_n (pc := 0) dX7_isDigit_0 rfl ?_
  refine rr_iload_n (pc := 1) dX7_isDigit_1 rfl ?_
  refine rr_inv0 (M' := MX7_see) (k := 116) (As := [_]) (pc := 2) dX7_isDigit_2 lX7_84 kX7_see vX7_see zk_116 (by decide) rfl (by decide) (by decide) (Nat.le_of_ble_eq_true rfl) rfl (eX7_see hT hk ?_)
  have hsr : -1 ≤ (if k < N then B k else -1) ∧ (if k < N then B k else -1) ≤ 255 := by
    split
    · rename_i g; have := tB k g; omega
    · omega
  refine rr_bipush (n := (48)) dX7_isDigit_5 ?_
  refine rr_bipush (n := (57)) dX7_isDigit_7 ?_
  refine rr_sta0 (M' := MX7_isIn) (As := [_, _, _]) (pc := 9) dX7_isDigit_9 lX7_69 kX7_isIn sX7_isIn (by decide) (by decide) (Nat.le_of_ble_eq_true rfl) rfl (eX7_isIn (by unfold zR; omega) (by unfold zR; omega) (by unfold zR; omega) ?_)
  exact rr_reti (pc := 12) dX7_isDigit_12 rfl z_nb (z_sf fDi_t) rfl (hq)
theorem dX7_next_0 : decode cX7_next 0 = .ok (.aload_n 0, 1) := by decide +kernel
theorem dX7_next_1 : decode cX7_next 1 = .ok (.aload_n 0, 1) := by decide +kernel
theorem dX7_next_2 : decode cX7_next 2 = .ok (.getfield 88, 3) := by decide +kernel
theorem dX7_next_5 : decode cX7_next 5 = .ok (.putfield 91, 3) := by decide +kernel
theorem dX7_next_8 : decode cX7_next 8 = .ok (.aload_n 0, 1) := by decide +kernel
theorem dX7_next_9 : decode cX7_next 9 = .ok (.aload_n 0, 1) := by decide +kernel
theorem dX7_next_10 : decode cX7_next 10 = .ok (.getfield 91, 3) := by decide +kernel
theorem dX7_next_13 : decode cX7_next 13 = .ok (.invokevirtual 84, 3) := by decide +kernel
theorem dX7_next_16 : decode cX7_next 16 = .ok (.bipush 32, 2) := by decide +kernel
theorem dX7_next_18 : decode cX7_next 18 = .ok (.if_icmp .ne 16, 3) := by decide +kernel
theorem dX7_next_21 : decode cX7_next 21 = .ok (.aload_n 0, 1) := by decide +kernel
theorem dX7_next_22 : decode cX7_next 22 = .ok (.dup, 1) := by decide +kernel
theorem dX7_next_23 : decode cX7_next 23 = .ok (.getfield 91, 3) := by decide +kernel
theorem dX7_next_26 : decode cX7_next 26 = .ok (.iconst 1, 1) := by decide +kernel
theorem dX7_next_27 : decode cX7_next 27 = .ok (.iadd, 1) := by decide +kernel
theorem dX7_next_28 : decode cX7_next 28 = .ok (.putfield 91, 3) := by decide +kernel
theorem dX7_next_31 : decode cX7_next 31 = .ok (.goto (-23), 3) := by decide +kernel
theorem dX7_next_34 : decode cX7_next 34 = .ok (.aload_n 0, 1) := by decide +kernel
theorem dX7_next_35 : decode cX7_next 35 = .ok (.aload_n 0, 1) := by decide +kernel
theorem dX7_next_36 : decode cX7_next 36 = .ok (.getfield 91, 3) := by decide +kernel
theorem dX7_next_39 : decode cX7_next 39 = .ok (.putfield 88, 3) := by decide +kernel
theorem dX7_next_42 : decode cX7_next 42 = .ok (.aload_n 0, 1) := by decide +kernel
theorem dX7_next_43 : decode cX7_next 43 = .ok (.iconst 0, 1) := by decide +kernel
theorem dX7_next_44 : decode cX7_next 44 = .ok (.putfield 94, 3) := by decide +kernel
theorem dX7_next_47 : decode cX7_next 47 = .ok (.aload_n 0, 1) := by decide +kernel
theorem dX7_next_48 : decode cX7_next 48 = .ok (.getfield 91, 3) := by decide +kernel
theorem dX7_next_51 : decode cX7_next 51 = .ok (.aload_n 0, 1) := by decide +kernel
theorem dX7_next_52 : decode cX7_next 52 = .ok (.getfield 81, 3) := by decide +kernel
theorem dX7_next_55 : decode cX7_next 55 = .ok (.if_icmp .lt 11, 3) := by decide +kernel
theorem dX7_next_58 : decode cX7_next 58 = .ok (.aload_n 0, 1) := by decide +kernel
theorem dX7_next_59 : decode cX7_next 59 = .ok (.iconst 3, 1) := by decide +kernel
theorem dX7_next_60 : decode cX7_next 60 = .ok (.putfield 97, 3) := by decide +kernel
theorem dX7_next_63 : decode cX7_next 63 = .ok (.goto 133, 3) := by decide +kernel
theorem dX7_next_66 : decode cX7_next 66 = .ok (.aload_n 0, 1) := by decide +kernel
theorem dX7_next_67 : decode cX7_next 67 = .ok (.aload_n 0, 1) := by decide +kernel
theorem dX7_next_68 : decode cX7_next 68 = .ok (.getfield 91, 3) := by decide +kernel
theorem dX7_next_71 : decode cX7_next 71 = .ok (.invokevirtual 100, 3) := by decide +kernel
theorem dX7_next_74 : decode cX7_next 74 = .ok (.ifCond .eq 35, 3) := by decide +kernel
theorem dX7_next_77 : decode cX7_next 77 = .ok (.aload_n 0, 1) := by decide +kernel
theorem dX7_next_78 : decode cX7_next 78 = .ok (.aload_n 0, 1) := by decide +kernel
theorem dX7_next_79 : decode cX7_next 79 = .ok (.getfield 88, 3) := by decide +kernel
theorem dX7_next_82 : decode cX7_next 82 = .ok (.invokevirtual 100, 3) := by decide +kernel
theorem dX7_next_85 : decode cX7_next 85 = .ok (.ifCond .eq 16, 3) := by decide +kernel
theorem dX7_next_88 : decode cX7_next 88 = .ok (.aload_n 0, 1) := by decide +kernel
theorem dX7_next_89 : decode cX7_next 89 = .ok (.dup, 1) := by decide +kernel
theorem dX7_next_90 : decode cX7_next 90 = .ok (.getfield 88, 3) := by decide +kernel
theorem dX7_next_93 : decode cX7_next 93 = .ok (.iconst 1, 1) := by decide +kernel
theorem dX7_next_94 : decode cX7_next 94 = .ok (.iadd, 1) := by decide +kernel
theorem dX7_next_95 : decode cX7_next 95 = .ok (.putfield 88, 3) := by decide +kernel
theorem dX7_next_98 : decode cX7_next 98 = .ok (.goto (-21), 3) := by decide +kernel
theorem dX7_next_101 : decode cX7_next 101 = .ok (.aload_n 0, 1) := by decide +kernel
theorem dX7_next_102 : decode cX7_next 102 = .ok (.iconst 0, 1) := by decide +kernel
theorem dX7_next_103 : decode cX7_next 103 = .ok (.putfield 97, 3) := by decide +kernel
theorem dX7_next_106 : decode cX7_next 106 = .ok (.goto 90, 3) := by decide +kernel
theorem dX7_next_109 : decode cX7_next 109 = .ok (.aload_n 0, 1) := by decide +kernel
theorem dX7_next_110 : decode cX7_next 110 = .ok (.aload_n 0, 1) := by decide +kernel
theorem dX7_next_111 : decode cX7_next 111 = .ok (.getfield 91, 3) := by decide +kernel
theorem dX7_next_114 : decode cX7_next 114 = .ok (.invokevirtual 104, 3) := by decide +kernel
theorem dX7_next_117 : decode cX7_next 117 = .ok (.ifCond .eq 64, 3) := by decide +kernel
theorem dX7_next_120 : decode cX7_next 120 = .ok (.aload_n 0, 1) := by decide +kernel
theorem dX7_next_121 : decode cX7_next 121 = .ok (.aload_n 0, 1) := by decide +kernel
theorem dX7_next_122 : decode cX7_next 122 = .ok (.getfield 88, 3) := by decide +kernel
theorem dX7_next_125 : decode cX7_next 125 = .ok (.invokevirtual 104, 3) := by decide +kernel
theorem dX7_next_128 : decode cX7_next 128 = .ok (.ifCond .eq 45, 3) := by decide +kernel
theorem dX7_next_131 : decode cX7_next 131 = .ok (.aload_n 0, 1) := by decide +kernel
theorem dX7_next_132 : decode cX7_next 132 = .ok (.sipush 1000, 3) := by decide +kernel
theorem dX7_next_135 : decode cX7_next 135 = .ok (.bipush 10, 2) := by decide +kernel
theorem dX7_next_137 : decode cX7_next 137 = .ok (.aload_n 0, 1) := by decide +kernel
theorem dX7_next_138 : decode cX7_next 138 = .ok (.getfield 94, 3) := by decide +kernel
theorem dX7_next_141 : decode cX7_next 141 = .ok (.imul, 1) := by decide +kernel
theorem dX7_next_142 : decode cX7_next 142 = .ok (.aload_n 0, 1) := by decide +kernel
theorem dX7_next_143 : decode cX7_next 143 = .ok (.aload_n 0, 1) := by decide +kernel
theorem dX7_next_144 : decode cX7_next 144 = .ok (.getfield 88, 3) := by decide +kernel
theorem dX7_next_147 : decode cX7_next 147 = .ok (.invokevirtual 84, 3) := by decide +kernel
theorem dX7_next_150 : decode cX7_next 150 = .ok (.iadd, 1) := by decide +kernel
theorem dX7_next_151 : decode cX7_next 151 = .ok (.bipush 48, 2) := by decide +kernel
theorem dX7_next_153 : decode cX7_next 153 = .ok (.isub, 1) := by decide +kernel
theorem dX7_next_154 : decode cX7_next 154 = .ok (.invokestatic 107, 3) := by decide +kernel
theorem dX7_next_157 : decode cX7_next 157 = .ok (.putfield 94, 3) := by decide +kernel
theorem dX7_next_160 : decode cX7_next 160 = .ok (.aload_n 0, 1) := by decide +kernel
theorem dX7_next_161 : decode cX7_next 161 = .ok (.dup, 1) := by decide +kernel
theorem dX7_next_162 : decode cX7_next 162 = .ok (.getfield 88, 3) := by decide +kernel
theorem dX7_next_165 : decode cX7_next 165 = .ok (.iconst 1, 1) := by decide +kernel
theorem dX7_next_166 : decode cX7_next 166 = .ok (.iadd, 1) := by decide +kernel
theorem dX7_next_167 : decode cX7_next 167 = .ok (.putfield 88, 3) := by decide +kernel
theorem dX7_next_170 : decode cX7_next 170 = .ok (.goto (-50), 3) := by decide +kernel
theorem dX7_next_173 : decode cX7_next 173 = .ok (.aload_n 0, 1) := by decide +kernel
theorem dX7_next_174 : decode cX7_next 174 = .ok (.iconst 1, 1) := by decide +kernel
theorem dX7_next_175 : decode cX7_next 175 = .ok (.putfield 97, 3) := by decide +kernel
theorem dX7_next_178 : decode cX7_next 178 = .ok (.goto 18, 3) := by decide +kernel
theorem dX7_next_181 : decode cX7_next 181 = .ok (.aload_n 0, 1) := by decide +kernel
theorem dX7_next_182 : decode cX7_next 182 = .ok (.dup, 1) := by decide +kernel
theorem dX7_next_183 : decode cX7_next 183 = .ok (.getfield 88, 3) := by decide +kernel
theorem dX7_next_186 : decode cX7_next 186 = .ok (.iconst 1, 1) := by decide +kernel
theorem dX7_next_187 : decode cX7_next 187 = .ok (.iadd, 1) := by decide +kernel
theorem dX7_next_188 : decode cX7_next 188 = .ok (.putfield 88, 3) := by decide +kernel
theorem dX7_next_191 : decode cX7_next 191 = .ok (.aload_n 0, 1) := by decide +kernel
theorem dX7_next_192 : decode cX7_next 192 = .ok (.iconst 2, 1) := by decide +kernel
theorem dX7_next_193 : decode cX7_next 193 = .ok (.putfield 97, 3) := by decide +kernel
theorem dX7_next_196 : decode cX7_next 196 = .ok (.return_, 1) := by decide +kernel
theorem eX7_next {W : zWd} {B : Nat → Int} {N : Nat} {b : Nat}  {Q : Option Value → zWd → Prop} {X : zX} (hT : zMT W B N) (hb : W 116 11 = b) (hbN : b ≤ N) (hq : ∀ W' : zWd, zOfr2 W W' → zMT W' B N → zMk W' B N (sSk B N b) → Q none W') : Ev MX7_next 2 0 W [.ref 116] Q X := by
  refine ev_of (ls := [.ref 116]) (by decide) rfl (fun _ => rfl) (fun _ => Nat.le_of_ble_eq_true rfl) (Or.inl rfl) ?_
  have h600 := hT.2.1
  have hpN := (sRun_rng (f := fSp) (B := B) (N := N) (N - b) b hbN).2
  obtain ⟨pp, hpp⟩ : ∃ x, sSk B N b = x := ⟨_, rfl⟩
  have hpN : pp ≤ N := by rw [← hpp]; exact hpN
  rw [hpp] at hq
  have loopB : pp < N → fLe (B pp) = true → ∀ (n : Nat) (i : Nat) (Wi : zWd), pp ≤ i → i ≤ N → zOfr2 W Wi → Wi 116 10 = pp → Wi 116 11 = i → Wi 116 13 = 0 → sWe B N pp = sRun fLe B N (N - i) i → N - i < n → RR MX7_next 2 0 Wi 77 [.ref 116] [] (zEnd MX7_next Q X) X := by
    intro hlt hle n
    have hEd : sEd B N pp = sWe B N pp := by unfold sEd; rw [if_neg (by omega), if_pos hle]
    have hKd : sKd B N pp = 0 := by unfold sKd; rw [if_neg (by omega), if_pos hle]
    have hNb : sNb B N pp = 0 := by unfold sNb; rw [if_neg (fun z => by have h1 := fLe_t.mp hle; have h2 := fDi_t.mp z.2; omega)]
    induction n with
    | zero => intro i Wi _ _ _ _ _ _ _ hm9; omega
    | succ n ih =>
      intro i Wi h1 h2 oi e10 e11 e13 hL hm9
      refine rr_aload_n (pc := 77) dX7_next_77 rfl ?_
      refine rr_aload_n (pc := 78) dX7_next_78 rfl ?_
      refine rr_getI (pc := 79) (ji := 11) dX7_next_79 fX7_88 zk_116 zr_116_11 rfl ?_
      rw [e11]
      refine rr_inv0 (M' := MX7_isLetter) (k := 116) (As := [_]) (pc := 82) dX7_next_82 lX7_100 kX7_isLetter vX7_isLetter zk_116 (by decide) rfl (by decide) (by decide) (Nat.le_of_ble_eq_true rfl) rfl (eX7_isLetter (hT.r oi) (by omega) ?_)
      refine rr_if_eq (pc := 85) (tgt := 101) dX7_next_85 (by decide) (by split <;> (unfold zR; omega)) (fun h85 => ?_) (fun h85 => ?_)
      · refine rr_aload_n (pc := 101) dX7_next_101 rfl ?_
        refine rr_iconst (n := 0) dX7_next_102 ?_
        refine rr_put (pc := 103) (ji := 12) dX7_next_103 fX7_97 fp_7_12 zk_116 zr_116_12 rfl ?_
        refine rr_goto (pc := 106) (tgt := 196) dX7_next_106 (by decide) ?_
        exact rr_retv (pc := 196) dX7_next_196 rfl rfl (hq _ (oi.up (by omega)) (hT.r (oi.up (by omega))) ⟨by rw [zup_i (by decide)]; exact e10, hpN, by rw [zup_i (by decide), e11, hEd, hL, sRun_n (z_i10 h85)], by rw [zup_s, hKd], by rw [zup_i (by decide), e13, hNb]⟩)
      · refine rr_aload_n (pc := 88) dX7_next_88 rfl ?_
        refine rr_dup_r (pc := 89) dX7_next_89 ?_
        have hc := z_i10n h85
        refine rr_getI (pc := 90) (ji := 11) dX7_next_90 fX7_88 zk_116 zr_116_11 rfl ?_
        rw [e11]
        refine rr_iconst (n := 1) dX7_next_93 ?_
        refine rr_iadd (pc := 94) dX7_next_94 ?_
        refine rr_put (pc := 95) (ji := 11) dX7_next_95 fX7_88 fp_7_11 zk_116 zr_116_11 rfl ?_
        refine rr_goto (pc := 98) (tgt := 77) dX7_next_98 (by decide) ?_
        exact ih (i + 1) _ (by omega) (by omega) (oi.up (by omega)) (by rw [zup_i (by decide)]; exact e10) (by rw [zup_s]; omega) (by rw [zup_i (by decide)]; exact e13) (by rw [← sRun_y hc.1 hc.2]; exact hL) (by omega)
  have loopC : pp < N → ¬ fLe (B pp) = true → fDi (B pp) = true → ∀ (n : Nat) (i : Nat) (v : Int) (Wi : zWd), pp ≤ i → i ≤ N → zOfr2 W Wi → Wi 116 10 = pp → Wi 116 11 = i → Wi 116 13 = v → 0 ≤ v → v ≤ 1000 → sDe B N pp = sRun fDi B N (N - i) i → sNv B N pp = sVal B N (N - i) i v → N - i < n → RR MX7_next 2 0 Wi 120 [.ref 116] [] (zEnd MX7_next Q X) X := by
    intro hlt hle hdi n
    have hEd : sEd B N pp = sDe B N pp := by unfold sEd; rw [if_neg (by omega), if_neg hle, if_pos hdi]
    have hKd : sKd B N pp = 1 := by unfold sKd; rw [if_neg (by omega), if_neg hle, if_pos hdi]
    have hNb : sNb B N pp = sNv B N pp := by unfold sNb; rw [if_pos ⟨hlt, hdi⟩]
    induction n with
    | zero => intro i v Wi _ _ _ _ _ _ _ _ _ _ hm9; omega
    | succ n ih =>
      intro i v Wi h1 h2 oi e10 e11 e13 hv0 hv1 hL hV hm9
      refine rr_aload_n (pc := 120) dX7_next_120 rfl ?_
      refine rr_aload_n (pc := 121) dX7_next_121 rfl ?_
      refine rr_getI (pc := 122) (ji := 11) dX7_next_122 fX7_88 zk_116 zr_116_11 rfl ?_
      rw [e11]
      refine rr_inv0 (M' := MX7_isDigit) (k := 116) (As := [_]) (pc := 125) dX7_next_125 lX7_104 kX7_isDigit vX7_isDigit zk_116 (by decide) rfl (by decide) (by decide) (Nat.le_of_ble_eq_true rfl) rfl (eX7_isDigit (hT.r oi) (by omega) ?_)
      refine rr_if_eq (pc := 128) (tgt := 173) dX7_next_128 (by decide) (by split <;> (unfold zR; omega)) (fun h128 => ?_) (fun h128 => ?_)
      · refine rr_aload_n (pc := 173) dX7_next_173 rfl ?_
        refine rr_iconst (n := 1) dX7_next_174 ?_
        refine rr_put (pc := 175) (ji := 12) dX7_next_175 fX7_97 fp_7_12 zk_116 zr_116_12 rfl ?_
        refine rr_goto (pc := 178) (tgt := 196) dX7_next_178 (by decide) ?_
        exact rr_retv (pc := 196) dX7_next_196 rfl rfl (hq _ (oi.up (by omega)) (hT.r (oi.up (by omega))) ⟨by rw [zup_i (by decide)]; exact e10, hpN, by rw [zup_i (by decide), e11, hEd, hL, sRun_n (z_i10 h128)], by rw [zup_s, hKd], by rw [zup_i (by decide), e13, hNb, hV, sVal_n (z_i10 h128)]⟩)
      · refine rr_aload_n (pc := 131) dX7_next_131 rfl ?_
        refine rr_sipush (n := (1000)) dX7_next_132 ?_
        refine rr_bipush (n := (10)) dX7_next_135 ?_
        refine rr_aload_n (pc := 137) dX7_next_137 rfl ?_
        refine rr_getI (pc := 138) (ji := 13) dX7_next_138 fX7_94 zk_116 zr_116_13 rfl ?_
        rw [e13]
        refine rr_imul (pc := 141) dX7_next_141 ?_
        refine rr_aload_n (pc := 142) dX7_next_142 rfl ?_
        refine rr_aload_n (pc := 143) dX7_next_143 rfl ?_
        refine rr_getI (pc := 144) (ji := 11) dX7_next_144 fX7_88 zk_116 zr_116_11 rfl ?_
        rw [e11]
        have hc := z_i10n h128
        refine rr_inv0 (M' := MX7_see) (k := 116) (As := [_]) (pc := 147) dX7_next_147 lX7_84 kX7_see vX7_see zk_116 (by decide) rfl (by decide) (by decide) (Nat.le_of_ble_eq_true rfl) rfl (eX7_see (hT.r oi) (by omega) ?_)
        rw [if_pos hc.1]
        have hbb := hT.2.2 i hc.1
        refine rr_iadd (pc := 150) dX7_next_150 ?_
        refine rr_bipush (n := (48)) dX7_next_151 ?_
        refine rr_isub (pc := 153) dX7_next_153 ?_
        refine rr_min (pc := 154) dX7_next_154 lX7_107 z_mmin (by unfold zR; omega) (by unfold zR; omega) (by decide) (Nat.le_of_ble_eq_true rfl) ?_
        refine rr_put (pc := 157) (ji := 13) dX7_next_157 fX7_94 fp_7_13 zk_116 zr_116_13 rfl ?_
        have oj : zOfr2 W (zup Wi 116 13 (if 10 * v + B i - 48 < 1000 then 10 * v + B i - 48 else 1000)) := oi.up (by omega)
        have f10 : zup Wi 116 13 (if 10 * v + B i - 48 < 1000 then 10 * v + B i - 48 else 1000) 116 10 = pp := by rw [zup_i (by decide)]; exact e10
        have f11 : zup Wi 116 13 (if 10 * v + B i - 48 < 1000 then 10 * v + B i - 48 else 1000) 116 11 = i := by rw [zup_i (by decide)]; exact e11
        have f13 : zup Wi 116 13 (if 10 * v + B i - 48 < 1000 then 10 * v + B i - 48 else 1000) 116 13 = (if 10 * v + B i - 48 < 1000 then 10 * v + B i - 48 else 1000) := zup_s
        generalize zup Wi 116 13 (if 10 * v + B i - 48 < 1000 then 10 * v + B i - 48 else 1000) = Wj at oj f10 f11 f13 ⊢
        have hcd := fDi_t.mp hc.2
        refine rr_aload_n (pc := 160) dX7_next_160 rfl ?_
        refine rr_dup_r (pc := 161) dX7_next_161 ?_
        refine rr_getI (pc := 162) (ji := 11) dX7_next_162 fX7_88 zk_116 zr_116_11 rfl ?_
        rw [f11]
        refine rr_iconst (n := 1) dX7_next_165 ?_
        refine rr_iadd (pc := 166) dX7_next_166 ?_
        refine rr_put (pc := 167) (ji := 11) dX7_next_167 fX7_88 fp_7_11 zk_116 zr_116_11 rfl ?_
        refine rr_goto (pc := 170) (tgt := 120) dX7_next_170 (by decide) ?_
        exact ih (i + 1) (if 10 * v + B i - 48 < 1000 then 10 * v + B i - 48 else 1000) _ (by omega) (by omega) (oj.up (by omega)) (by rw [zup_i (by decide)]; exact f10) (by rw [zup_s]; omega) (by rw [zup_i (by decide)]; exact f13) (by split <;> omega) (by split <;> omega) (by rw [← sRun_y hc.1 hc.2]; exact hL) (by rw [← sVal_y hc.1 hc.2]; exact hV) (by omega)
  have tail : ∀ (Wi : zWd), zOfr2 W Wi → Wi 116 10 = pp → RR MX7_next 2 0 Wi 34 [.ref 116] [] (zEnd MX7_next Q X) X := by
    intro Wi oi e10
    refine rr_aload_n (pc := 34) dX7_next_34 rfl ?_
    refine rr_aload_n (pc := 35) dX7_next_35 rfl ?_
    refine rr_getI (pc := 36) (ji := 10) dX7_next_36 fX7_91 zk_116 zr_116_10 rfl ?_
    rw [e10]
    refine rr_put (pc := 39) (ji := 11) dX7_next_39 fX7_88 fp_7_11 zk_116 zr_116_11 rfl ?_
    refine rr_aload_n (pc := 42) dX7_next_42 rfl ?_
    refine rr_iconst (n := 0) dX7_next_43 ?_
    refine rr_put (pc := 44) (ji := 13) dX7_next_44 fX7_94 fp_7_13 zk_116 zr_116_13 rfl ?_
    have oA : zOfr2 W (zup (zup Wi 116 11 pp) 116 13 0) := (oi.up (by omega)).up (by omega)
    have a10 : zup (zup Wi 116 11 pp) 116 13 0 116 10 = pp := by rw [zup_i (by decide), zup_i (by decide)]; exact e10
    have a11 : zup (zup Wi 116 11 pp) 116 13 0 116 11 = pp := by rw [zup_i (by decide), zup_s]
    have a13 : zup (zup Wi 116 11 pp) 116 13 0 116 13 = 0 := zup_s
    have tA := hT.r oA
    generalize zup (zup Wi 116 11 pp) 116 13 0 = W1 at oA a10 a11 a13 tA ⊢
    refine rr_aload_n (pc := 47) dX7_next_47 rfl ?_
    refine rr_getI (pc := 48) (ji := 10) dX7_next_48 fX7_91 zk_116 zr_116_10 rfl ?_
    rw [a10]
    refine rr_aload_n (pc := 51) dX7_next_51 rfl ?_
    refine rr_getI (pc := 52) (ji := 9) dX7_next_52 fX7_81 zk_116 zr_116_9 rfl ?_
    rw [tA.1]
    refine rr_icmp_lt (pc := 55) (tgt := 66) dX7_next_55 (by decide) (by unfold zR; omega) (by unfold zR; omega) (fun h55 => ?_) (fun h55 => ?_)
    · refine rr_aload_n (pc := 66) dX7_next_66 rfl ?_
      refine rr_aload_n (pc := 67) dX7_next_67 rfl ?_
      refine rr_getI (pc := 68) (ji := 10) dX7_next_68 fX7_91 zk_116 zr_116_10 rfl ?_
      rw [a10]
      refine rr_inv0 (M' := MX7_isLetter) (k := 116) (As := [_]) (pc := 71) dX7_next_71 lX7_100 kX7_isLetter vX7_isLetter zk_116 (by decide) rfl (by decide) (by decide) (Nat.le_of_ble_eq_true rfl) rfl (eX7_isLetter tA (by omega) ?_)
      refine rr_if_eq (pc := 74) (tgt := 109) dX7_next_74 (by decide) (by split <;> (unfold zR; omega)) (fun h74 => ?_) (fun h74 => ?_)
      · refine rr_aload_n (pc := 109) dX7_next_109 rfl ?_
        refine rr_aload_n (pc := 110) dX7_next_110 rfl ?_
        refine rr_getI (pc := 111) (ji := 10) dX7_next_111 fX7_91 zk_116 zr_116_10 rfl ?_
        rw [a10]
        refine rr_inv0 (M' := MX7_isDigit) (k := 116) (As := [_]) (pc := 114) dX7_next_114 lX7_104 kX7_isDigit vX7_isDigit zk_116 (by decide) rfl (by decide) (by decide) (Nat.le_of_ble_eq_true rfl) rfl (eX7_isDigit tA (by omega) ?_)
        refine rr_if_eq (pc := 117) (tgt := 181) dX7_next_117 (by decide) (by split <;> (unfold zR; omega)) (fun h117 => ?_) (fun h117 => ?_)
        · refine rr_aload_n (pc := 181) dX7_next_181 rfl ?_
          refine rr_dup_r (pc := 182) dX7_next_182 ?_
          refine rr_getI (pc := 183) (ji := 11) dX7_next_183 fX7_88 zk_116 zr_116_11 rfl ?_
          rw [a11]
          refine rr_iconst (n := 1) dX7_next_186 ?_
          refine rr_iadd (pc := 187) dX7_next_187 ?_
          refine rr_put (pc := 188) (ji := 11) dX7_next_188 fX7_88 fp_7_11 zk_116 zr_116_11 rfl ?_
          refine rr_aload_n (pc := 191) dX7_next_191 rfl ?_
          refine rr_iconst (n := 2) dX7_next_192 ?_
          refine rr_put (pc := 193) (ji := 12) dX7_next_193 fX7_97 fp_7_12 zk_116 zr_116_12 rfl ?_
          exact rr_retv (pc := 196) dX7_next_196 rfl rfl (hq _ ((oA.up (by omega)).up (by omega)) (hT.r ((oA.up (by omega)).up (by omega))) ⟨by rw [zup_i (by decide), zup_i (by decide)]; exact a10, hpN, by rw [zup_i (by decide), zup_s]; unfold sEd; rw [if_neg (by omega), if_neg (fun z => (z_i10 h74) ⟨by omega, z⟩), if_neg (fun z => (z_i10 h117) ⟨by omega, z⟩)]; omega, by rw [zup_s]; unfold sKd; rw [if_neg (by omega), if_neg (fun z => (z_i10 h74) ⟨by omega, z⟩), if_neg (fun z => (z_i10 h117) ⟨by omega, z⟩)], by rw [zup_i (by decide), zup_i (by decide), a13]; unfold sNb; rw [if_neg (fun z => (z_i10 h117) z)]⟩)
        · exact loopC (by omega) (fun z => (z_i10 h74) ⟨by omega, z⟩) (z_i10n h117).2 _ pp 0 W1 (Nat.le_refl _) hpN oA a10 a11 a13 (by omega) (by omega) rfl rfl (Nat.lt_succ_self _)
      · exact loopB (by omega) (z_i10n h74).2 _ pp W1 (Nat.le_refl _) hpN oA a10 a11 a13 rfl (Nat.lt_succ_self _)
    · refine rr_aload_n (pc := 58) dX7_next_58 rfl ?_
      refine rr_iconst (n := 3) dX7_next_59 ?_
      refine rr_put (pc := 60) (ji := 12) dX7_next_60 fX7_97 fp_7_12 zk_116 zr_116_12 rfl ?_
      refine rr_goto (pc := 63) (tgt := 196) dX7_next_63 (by decide) ?_
      exact rr_retv (pc := 196) dX7_next_196 rfl rfl (hq _ (oA.up (by omega)) (hT.r (oA.up (by omega))) ⟨by rw [zup_i (by decide)]; exact a10, hpN, by rw [zup_i (by decide), a11]; unfold sEd; rw [if_pos (by omega)], by rw [zup_s]; unfold sKd; rw [if_pos (by omega)], by rw [zup_i (by decide), a13]; unfold sNb; rw [if_neg (fun z => by omega)]⟩)
  have loop : ∀ (n : Nat) (i : Nat) (Wi : zWd), i ≤ N → zOfr2 W Wi → Wi 116 10 = i → pp = sRun fSp B N (N - i) i → N - i < n → RR MX7_next 2 0 Wi 8 [.ref 116] [] (zEnd MX7_next Q X) X := by
    intro n
    induction n with
    | zero => intro i Wi _ _ _ _ hm9; omega
    | succ n ih =>
      intro i Wi h2 oi e10 hL hm9
      refine rr_aload_n (pc := 8) dX7_next_8 rfl ?_
      refine rr_aload_n (pc := 9) dX7_next_9 rfl ?_
      refine rr_getI (pc := 10) (ji := 10) dX7_next_10 fX7_91 zk_116 zr_116_10 rfl ?_
      rw [e10]
      refine rr_inv0 (M' := MX7_see) (k := 116) (As := [_]) (pc := 13) dX7_next_13 lX7_84 kX7_see vX7_see zk_116 (by decide) rfl (by decide) (by decide) (Nat.le_of_ble_eq_true rfl) rfl (eX7_see (hT.r oi) (by omega) ?_)
      have hsr : -1 ≤ (if i < N then B i else -1) ∧ (if i < N then B i else -1) ≤ 255 := by
        split
        · rename_i g; have := hT.2.2 i g; omega
        · omega
      refine rr_bipush (n := (32)) dX7_next_16 ?_
      refine rr_icmp_ne (pc := 18) (tgt := 34) dX7_next_18 (by decide) (by unfold zR; omega) (by unfold zR; omega) (fun h18 => ?_) (fun h18 => ?_)
      · have hn : ¬ (i < N ∧ fSp (B i) = true) := fun z => by rw [if_pos z.1] at h18; exact h18 (fSp_t.mp z.2)
        have hpi : pp = i := hL.trans (sRun_n hn)
        exact tail Wi oi (by rw [hpi]; exact e10)
      · refine rr_aload_n (pc := 21) dX7_next_21 rfl ?_
        refine rr_dup_r (pc := 22) dX7_next_22 ?_
        have hc : i < N ∧ fSp (B i) = true := by
          by_cases g : i < N
          · rw [if_pos g] at h18; exact ⟨g, fSp_t.mpr h18⟩
          · rw [if_neg g] at h18; omega
        refine rr_getI (pc := 23) (ji := 10) dX7_next_23 fX7_91 zk_116 zr_116_10 rfl ?_
        rw [e10]
        refine rr_iconst (n := 1) dX7_next_26 ?_
        refine rr_iadd (pc := 27) dX7_next_27 ?_
        refine rr_put (pc := 28) (ji := 10) dX7_next_28 fX7_91 fp_7_10 zk_116 zr_116_10 rfl ?_
        refine rr_goto (pc := 31) (tgt := 8) dX7_next_31 (by decide) ?_
        exact ih (i + 1) _ (by omega) (oi.up (by omega)) (by rw [zup_s]; omega) (by rw [← sRun_y hc.1 hc.2]; exact hL) (by omega)
  refine rr_aload_n (pc := 0) dX7_next_0 rfl ?_
  refine rr_aload_n (pc := 1) dX7_next_1 rfl ?_
  refine rr_getI (pc := 2) (ji := 11) dX7_next_2 fX7_88 zk_116 zr_116_11 rfl ?_
  rw [hb]
  refine rr_put (pc := 5) (ji := 10) dX7_next_5 fX7_91 fp_7_10 zk_116 zr_116_10 rfl ?_
  exact loop _ b _ hbN (zOfr2.rf.up (by omega)) zup_s hpp.symm (Nat.lt_succ_self _)
