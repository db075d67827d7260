/-! the reference's text -/
def zMB (W : zWd) (L : List Int) : Prop := W 116 9 = L.length ∧ L.length ≤ 600 ∧ (∀ b ∈ L, 1 ≤ b ∧ b ≤ 255) ∧ ∀ k : Nat, k < L.length → W 123 k = L.getD k 0
theorem zMB.app {W : zWd} {L : List Int} {b : Int} (h : zMB W L) (hl : L.length < 600) (h1 : 1 ≤ b) (h2 : b ≤ 255) : zMB (zup (zup W 123 L.length b) 116 9 (L.length + 1)) (L ++ [b]) := by
  refine ⟨by rw [zup_s, List.length_append]; rfl, by rw [List.length_append]; exact hl, fun x hx => ?_, fun k hk => ?_⟩
  · rcases List.mem_append.mp hx with hx | hx
    · exact h.2.2.1 x hx
    · rw [List.mem_singleton.mp hx]; exact ⟨h1, h2⟩
  · rw [List.length_append] at hk
    have hk : k < L.length + 1 := hk
    rw [zup_other 123 (by decide)]
    by_cases q : k = L.length
    · subst q; rw [zup_s, z_appL]
    · rw [zup_i (by omega), z_appD (by omega)]; exact h.2.2.2 k (by omega)
def vSel (v0 v1 v2 v3 v4 : Int) (k : Nat) : Int := if k < 4 then v0 else if k < 8 then v1 else if k < 12 then v2 else if k < 16 then v3 else v4
def byt (v0 v1 v2 v3 v4 : Int) (k : Nat) : Int := bY (vSel v0 v1 v2 v3 v4 k) (k % 4)
def aBz (f : Nat → Int) : Nat → List Int
  | 0 => []
  | k + 1 => aBz f k ++ (if f k = 0 then [] else [f k])
theorem aBz_y {f : Nat → Int} {k : Nat} (h : f k = 0) : aBz f (k + 1) = aBz f k := by show aBz f k ++ _ = _; rw [if_pos h, List.append_nil]
theorem aBz_n {f : Nat → Int} {k : Nat} (h : f k ≠ 0) : aBz f (k + 1) = aBz f k ++ [f k] := by show aBz f k ++ _ = _; rw [if_neg h]
theorem aBz_len {f : Nat → Int} : ∀ k : Nat, (aBz f k).length ≤ k := by
  intro k
  induction k with
  | zero => exact Nat.le_refl _
  | succ k ih => unfold aBz; rw [List.length_append]; split <;> simp <;> omega
theorem aBz_mono {f : Nat → Int} {k : Nat} : ∀ m : Nat, (aBz f k).length ≤ (aBz f (k + m)).length := by
  intro m
  induction m with
  | zero => exact Nat.le_refl _
  | succ m ih =>
    show _ ≤ (aBz f (k + m) ++ _).length
    rw [List.length_append]; omega
theorem aBz_add {f : Nat → Int} {m : Nat} : ∀ n : Nat, aBz f (m + n) = aBz f m ++ aBz (fun k => f (m + k)) n := by
  intro n
  induction n with
  | zero => exact (List.append_nil _).symm
  | succ n ih =>
    show aBz f (m + n) ++ _ = _ ++ (aBz (fun k => f (m + k)) n ++ _)
    rw [ih, List.append_assoc]
    rfl
theorem aBz_by {f : Nat → Int} {v : Int} : ∀ n : Nat, (∀ k : Nat, k < n → f k = bY v k) → aBz f n = aBy v n := by
  intro n
  induction n with
  | zero => intro _; rfl
  | succ n ih =>
    intro h
    show aBz f n ++ _ = aBy v n ++ _
    rw [ih (fun k hk => h k (by omega)), h n (by omega)]
theorem aBz_20 (v0 v1 v2 v3 v4 : Int) : aBz (byt v0 v1 v2 v3 v4) 20 = aBy v0 4 ++ aBy v1 4 ++ aBy v2 4 ++ aBy v3 4 ++ aBy v4 4 := by
  rw [show (20 : Nat) = 4 + 4 + 4 + 4 + 4 from rfl, aBz_add, aBz_add, aBz_add, aBz_add]
  have e : ∀ (m : Nat) (v : Int), (∀ k : Nat, k < 4 → vSel v0 v1 v2 v3 v4 (m + k) = v ∧ (m + k) % 4 = k) → aBz (fun k => byt v0 v1 v2 v3 v4 (m + k)) 4 = aBy v 4 := fun m v h => aBz_by 4 (fun k hk => by
    show bY (vSel v0 v1 v2 v3 v4 (m + k)) ((m + k) % 4) = _
    rw [(h k hk).1, (h k hk).2])
  rw [aBz_by (v := v0) 4 (fun k hk => by show bY (vSel v0 v1 v2 v3 v4 k) (k % 4) = _; rw [show k % 4 = k by omega]; unfold vSel; rw [if_pos hk])]
  rw [e 4 v1 (fun k hk => ⟨by unfold vSel; rw [if_neg (by omega), if_pos (by omega)], by omega⟩)]
  rw [e (4 + 4) v2 (fun k hk => ⟨by unfold vSel; rw [if_neg (by omega), if_neg (by omega), if_pos (by omega)], by omega⟩)]
  rw [e (4 + 4 + 4) v3 (fun k hk => ⟨by unfold vSel; rw [if_neg (by omega), if_neg (by omega), if_neg (by omega), if_pos (by omega)], by omega⟩)]
  rw [e (4 + 4 + 4 + 4) v4 (fun k hk => ⟨by unfold vSel; rw [if_neg (by omega), if_neg (by omega), if_neg (by omega), if_neg (by omega)], by omega⟩)]
theorem dX7_byteOf_0 : decode cX7_byteOf 0 = .ok (.iload_n 0, 1) := by decide +kernel
theorem dX7_byteOf_1 : decode cX7_byteOf 1 = .ok (.iconst 4, 1) := by decide +kernel
theorem dX7_byteOf_2 : decode cX7_byteOf 2 = .ok (.if_icmp .ge 7, 3) := by decide +kernel
theorem dX7_byteOf_5 : decode cX7_byteOf 5 = .ok (.iload_n 1, 1) := by decide +kernel
theorem dX7_byteOf_6 : decode cX7_byteOf 6 = .ok (.goto 36, 3) := by decide +kernel
theorem dX7_byteOf_9 : decode cX7_byteOf 9 = .ok (.iload_n 0, 1) := by decide +kernel
theorem dX7_byteOf_10 : decode cX7_byteOf 10 = .ok (.bipush 8, 2) := by decide +kernel
theorem dX7_byteOf_12 : decode cX7_byteOf 12 = .ok (.if_icmp .ge 7, 3) := by decide +kernel
theorem dX7_byteOf_15 : decode cX7_byteOf 15 = .ok (.iload_n 2, 1) := by decide +kernel
theorem dX7_byteOf_16 : decode cX7_byteOf 16 = .ok (.goto 26, 3) := by decide +kernel
theorem dX7_byteOf_19 : decode cX7_byteOf 19 = .ok (.iload_n 0, 1) := by decide +kernel
theorem dX7_byteOf_20 : decode cX7_byteOf 20 = .ok (.bipush 12, 2) := by decide +kernel
theorem dX7_byteOf_22 : decode cX7_byteOf 22 = .ok (.if_icmp .ge 7, 3) := by decide +kernel
theorem dX7_byteOf_25 : decode cX7_byteOf 25 = .ok (.iload_n 3, 1) := by decide +kernel
theorem dX7_byteOf_26 : decode cX7_byteOf 26 = .ok (.goto 16, 3) := by decide +kernel
theorem dX7_byteOf_29 : decode cX7_byteOf 29 = .ok (.iload_n 0, 1) := by decide +kernel
theorem dX7_byteOf_30 : decode cX7_byteOf 30 = .ok (.bipush 16, 2) := by decide +kernel
theorem dX7_byteOf_32 : decode cX7_byteOf 32 = .ok (.if_icmp .ge 8, 3) := by decide +kernel
theorem dX7_byteOf_35 : decode cX7_byteOf 35 = .ok (.iload 4, 2) := by decide +kernel
theorem dX7_byteOf_37 : decode cX7_byteOf 37 = .ok (.goto 5, 3) := by decide +kernel
theorem dX7_byteOf_40 : decode cX7_byteOf 40 = .ok (.iload 5, 2) := by decide +kernel
theorem dX7_byteOf_42 : decode cX7_byteOf 42 = .ok (.istore 6, 2) := by decide +kernel
theorem dX7_byteOf_44 : decode cX7_byteOf 44 = .ok (.iload 6, 2) := by decide +kernel
theorem dX7_byteOf_46 : decode cX7_byteOf 46 = .ok (.bipush 24, 2) := by decide +kernel
theorem dX7_byteOf_48 : decode cX7_byteOf 48 = .ok (.bipush 8, 2) := by decide +kernel
theorem dX7_byteOf_50 : decode cX7_byteOf 50 = .ok (.iload_n 0, 1) := by decide +kernel
theorem dX7_byteOf_51 : decode cX7_byteOf 51 = .ok (.iconst 4, 1) := by decide +kernel
theorem dX7_byteOf_52 : decode cX7_byteOf 52 = .ok (.irem, 1) := by decide +kernel
theorem dX7_byteOf_53 : decode cX7_byteOf 53 = .ok (.imul, 1) := by decide +kernel
theorem dX7_byteOf_54 : decode cX7_byteOf 54 = .ok (.isub, 1) := by decide +kernel
theorem dX7_byteOf_55 : decode cX7_byteOf 55 = .ok (.ishr, 1) := by decide +kernel
theorem dX7_byteOf_56 : decode cX7_byteOf 56 = .ok (.sipush 255, 3) := by decide +kernel
theorem dX7_byteOf_59 : decode cX7_byteOf 59 = .ok (.iand, 1) := by decide +kernel
theorem dX7_byteOf_60 : decode cX7_byteOf 60 = .ok (.ireturn, 1) := by decide +kernel
theorem eX7_byteOf {W : zWd} {k : Nat} {v0 v1 v2 v3 v4 : Int}  {Q : Option Value → zWd → Prop} {X : zX} (hk : k < 20) (hz0 : zR v0) (hz1 : zR v1) (hz2 : zR v2) (hz3 : zR v3) (hz4 : zR v4) (hq : Q (some (zI (byt v0 v1 v2 v3 v4 k))) W) : Ev MX7_byteOf 0 0 W [zI (k : Int), zI v0, zI v1, zI v2, zI v3, zI v4] Q X := by
  refine ev_of (ls := [zI (k : Int), zI v0, zI v1, zI v2, zI v3, zI v4, .null]) (by decide) rfl (fun _ => rfl) (fun _ => Nat.le_of_ble_eq_true rfl) (Or.inl rfl) ?_
  refine rr_iload_n (pc := 0) dX7_byteOf_0 rfl ?_
  refine rr_iconst (n := 4) dX7_byteOf_1 ?_
  refine rr_icmp_ge (pc := 2) (tgt := 9) dX7_byteOf_2 (by decide) (by unfold zR; omega) (by unfold zR; omega) (fun h2 => ?_) (fun h2 => ?_)
  · refine rr_iload_n (pc := 9) dX7_byteOf_9 rfl ?_
    refine rr_bipush (n := (8)) dX7_byteOf_10 ?_
    refine rr_icmp_ge (pc := 12) (tgt := 19) dX7_byteOf_12 (by decide) (by unfold zR; omega) (by unfold zR; omega) (fun h12 => ?_) (fun h12 => ?_)
    · refine rr_iload_n (pc := 19) dX7_byteOf_19 rfl ?_
      refine rr_bipush (n := (12)) dX7_byteOf_20 ?_
      refine rr_icmp_ge (pc := 22) (tgt := 29) dX7_byteOf_22 (by decide) (by unfold zR; omega) (by unfold zR; omega) (fun h22 => ?_) (fun h22 => ?_)
      · refine rr_iload_n (pc := 29) dX7_byteOf_29 rfl ?_
        refine rr_bipush (n := (16)) dX7_byteOf_30 ?_
        refine rr_icmp_ge (pc := 32) (tgt := 40) dX7_byteOf_32 (by decide) (by unfold zR; omega) (by unfold zR; omega) (fun h32 => ?_) (fun h32 => ?_)
        · refine rr_iload (pc := 40) dX7_byteOf_40 rfl ?_
          have hv9 : vSel v0 v1 v2 v3 v4 k = v4 := by unfold vSel; rw [if_neg (by omega)]; rw [if_neg (by omega)]; rw [if_neg (by omega)]; rw [if_neg (by omega)]
          have hz9 := hz4
          refine rr_istore (pc := 42) dX7_byteOf_42 (by decide) ?_
          refine rr_iload (pc := 44) dX7_byteOf_44 rfl ?_
          refine rr_bipush (n := (24)) dX7_byteOf_46 ?_
          refine rr_bipush (n := (8)) dX7_byteOf_48 ?_
          refine rr_iload_n (pc := 50) dX7_byteOf_50 rfl ?_
          refine rr_iconst (n := 4) dX7_byteOf_51 ?_
          refine rr_irem (pc := 52) dX7_byteOf_52 (by omega) (by omega) (by omega) (by omega) ?_
          refine rr_imul (pc := 53) dX7_byteOf_53 ?_
          refine rr_isub (pc := 54) dX7_byteOf_54 ?_
          refine rr_ishr (pc := 55) dX7_byteOf_55 hz9 (by omega) (by omega) ?_
          refine rr_sipush (n := (255)) dX7_byteOf_56 ?_
          refine rr_iandm (pc := 59) 8 dX7_byteOf_59 (by decide) rfl ?_
          exact rr_reti (pc := 60) dX7_byteOf_60 rfl rfl (by unfold byt bY; rw [hv9, show (24 - 8 * ((k : Int) % 4)).toNat = 24 - 8 * (k % 4) by omega]) rfl (hq)
        · refine rr_iload (pc := 35) dX7_byteOf_35 rfl ?_
          refine rr_goto (pc := 37) (tgt := 42) dX7_byteOf_37 (by decide) ?_
          have hv9 : vSel v0 v1 v2 v3 v4 k = v3 := by unfold vSel; rw [if_neg (by omega)]; rw [if_neg (by omega)]; rw [if_neg (by omega)]; rw [if_pos (by omega)]
          have hz9 := hz3
          refine rr_istore (pc := 42) dX7_byteOf_42 (by decide) ?_
          refine rr_iload (pc := 44) dX7_byteOf_44 rfl ?_
          refine rr_bipush (n := (24)) dX7_byteOf_46 ?_
          refine rr_bipush (n := (8)) dX7_byteOf_48 ?_
          refine rr_iload_n (pc := 50) dX7_byteOf_50 rfl ?_
          refine rr_iconst (n := 4) dX7_byteOf_51 ?_
          refine rr_irem (pc := 52) dX7_byteOf_52 (by omega) (by omega) (by omega) (by omega) ?_
          refine rr_imul (pc := 53) dX7_byteOf_53 ?_
          refine rr_isub (pc := 54) dX7_byteOf_54 ?_
          refine rr_ishr (pc := 55) dX7_byteOf_55 hz9 (by omega) (by omega) ?_
          refine rr_sipush (n := (255)) dX7_byteOf_56 ?_
          refine rr_iandm (pc := 59) 8 dX7_byteOf_59 (by decide) rfl ?_
          exact rr_reti (pc := 60) dX7_byteOf_60 rfl rfl (by unfold byt bY; rw [hv9, show (24 - 8 * ((k : Int) % 4)).toNat = 24 - 8 * (k % 4) by omega]) rfl (hq)
      · refine rr_iload_n (pc := 25) dX7_byteOf_25 rfl ?_
        refine rr_goto (pc := 26) (tgt := 42) dX7_byteOf_26 (by decide) ?_
        have hv9 : vSel v0 v1 v2 v3 v4 k = v2 := by unfold vSel; rw [if_neg (by omega)]; rw [if_neg (by omega)]; rw [if_pos (by omega)]
        have hz9 := hz2
        refine rr_istore (pc := 42) dX7_byteOf_42 (by decide) ?_
        refine rr_iload (pc := 44) dX7_byteOf_44 rfl ?_
        refine rr_bipush (n := (24)) dX7_byteOf_46 ?_
        refine rr_bipush (n := (8)) dX7_byteOf_48 ?_
        refine rr_iload_n (pc := 50) dX7_byteOf_50 rfl ?_
        refine rr_iconst (n := 4) dX7_byteOf_51 ?_
        refine rr_irem (pc := 52) dX7_byteOf_52 (by omega) (by omega) (by omega) (by omega) ?_
        refine rr_imul (pc := 53) dX7_byteOf_53 ?_
        refine rr_isub (pc := 54) dX7_byteOf_54 ?_
        refine rr_ishr (pc := 55) dX7_byteOf_55 hz9 (by omega) (by omega) ?_
        refine rr_sipush (n := (255)) dX7_byteOf_56 ?_
        refine rr_iandm (pc := 59) 8 dX7_byteOf_59 (by decide) rfl ?_
        exact rr_reti (pc := 60) dX7_byteOf_60 rfl rfl (by unfold byt bY; rw [hv9, show (24 - 8 * ((k : Int) % 4)).toNat = 24 - 8 * (k % 4) by omega]) rfl (hq)
    · refine rr_iload_n (pc := 15) dX7_byteOf_15 rfl ?_
      refine rr_goto (pc := 16) (tgt := 42) dX7_byteOf_16 (by decide) ?_
      have hv9 : vSel v0 v1 v2 v3 v4 k = v1 := by unfold vSel; rw [if_neg (by omega)]; rw [if_pos (by omega)]
      have hz9 := hz1
      refine rr_istore (pc := 42) dX7_byteOf_42 (by decide) ?_
      refine rr_iload (pc := 44) dX7_byteOf_44 rfl ?_
      refine rr_bipush (n := (24)) dX7_byteOf_46 ?_
      refine rr_bipush (n := (8)) dX7_byteOf_48 ?_
      refine rr_iload_n (pc := 50) dX7_byteOf_50 rfl ?_
      refine rr_iconst (n := 4) dX7_byteOf_51 ?_
      refine rr_irem (pc := 52) dX7_byteOf_52 (by omega) (by omega) (by omega) (by omega) ?_
      refine rr_imul (pc := 53) dX7_byteOf_53 ?_
      refine rr_isub (pc := 54) dX7_byteOf_54 ?_
      refine rr_ishr (pc := 55) dX7_byteOf_55 hz9 (by omega) (by omega) ?_
      refine rr_sipush (n := (255)) dX7_byteOf_56 ?_
      refine rr_iandm (pc := 59) 8 dX7_byteOf_59 (by decide) rfl ?_
      exact rr_reti (pc := 60) dX7_byteOf_60 rfl rfl (by unfold byt bY; rw [hv9, show (24 - 8 * ((k : Int) % 4)).toNat = 24 - 8 * (k % 4) by omega]) rfl (hq)
  · refine rr_iload_n (pc := 5) dX7_byteOf_5 rfl ?_
    refine rr_goto (pc := 6) (tgt := 42) dX7_byteOf_6 (by decide) ?_
    have hv9 : vSel v0 v1 v2 v3 v4 k = v0 := by unfold vSel; rw [if_pos (by omega)]
    have hz9 := hz0
    refine rr_istore (pc := 42) dX7_byteOf_42 (by decide) ?_
    refine rr_iload (pc := 44) dX7_byteOf_44 rfl ?_
    refine rr_bipush (n := (24)) dX7_byteOf_46 ?_
    refine rr_bipush (n := (8)) dX7_byteOf_48 ?_
    refine rr_iload_n (pc := 50) dX7_byteOf_50 rfl ?_
    refine rr_iconst (n := 4) dX7_byteOf_51 ?_
    refine rr_irem (pc := 52) dX7_byteOf_52 (by omega) (by omega) (by omega) (by omega) ?_
    refine rr_imul (pc := 53) dX7_byteOf_53 ?_
    refine rr_isub (pc := 54) dX7_byteOf_54 ?_
    refine rr_ishr (pc := 55) dX7_byteOf_55 hz9 (by omega) (by omega) ?_
    refine rr_sipush (n := (255)) dX7_byteOf_56 ?_
    refine rr_iandm (pc := 59) 8 dX7_byteOf_59 (by decide) rfl ?_
    exact rr_reti (pc := 60) dX7_byteOf_60 rfl rfl (by unfold byt bY; rw [hv9, show (24 - 8 * ((k : Int) % 4)).toNat = 24 - 8 * (k % 4) by omega]) rfl (hq)
def zOfB (W W' : zWd) : Prop := (∀ k : Nat, k ≠ 116 → k ≠ 123 → W' k = W k) ∧ ∀ j : Int, j ≠ 7 → j ≠ 9 → W' 116 j = W 116 j
theorem dX7_append_0 : decode cX7_append 0 = .ok (.iconst 0, 1) := by decide +kernel
theorem dX7_append_1 : decode cX7_append 1 = .ok (.istore 6, 2) := by decide +kernel
theorem dX7_append_3 : decode cX7_append 3 = .ok (.iconst 0, 1) := by decide +kernel
theorem dX7_append_4 : decode cX7_append 4 = .ok (.istore 7, 2) := by decide +kernel
theorem dX7_append_6 : decode cX7_append 6 = .ok (.iload 7, 2) := by decide +kernel
theorem dX7_append_8 : decode cX7_append 8 = .ok (.bipush 20, 2) := by decide +kernel
theorem dX7_append_10 : decode cX7_append 10 = .ok (.if_icmp .ge 34, 3) := by decide +kernel
theorem dX7_append_13 : decode cX7_append 13 = .ok (.iload 6, 2) := by decide +kernel
theorem dX7_append_15 : decode cX7_append 15 = .ok (.iload 7, 2) := by decide +kernel
theorem dX7_append_17 : decode cX7_append 17 = .ok (.iload_n 1, 1) := by decide +kernel
theorem dX7_append_18 : decode cX7_append 18 = .ok (.iload_n 2, 1) := by decide +kernel
theorem dX7_append_19 : decode cX7_append 19 = .ok (.iload_n 3, 1) := by decide +kernel
theorem dX7_append_20 : decode cX7_append 20 = .ok (.iload 4, 2) := by decide +kernel
theorem dX7_append_22 : decode cX7_append 22 = .ok (.iload 5, 2) := by decide +kernel
theorem dX7_append_24 : decode cX7_append 24 = .ok (.invokestatic 77, 3) := by decide +kernel
theorem dX7_append_27 : decode cX7_append 27 = .ok (.ifCond .ne 7, 3) := by decide +kernel
theorem dX7_append_30 : decode cX7_append 30 = .ok (.iconst 0, 1) := by decide +kernel
theorem dX7_append_31 : decode cX7_append 31 = .ok (.goto 4, 3) := by decide +kernel
theorem dX7_append_34 : decode cX7_append 34 = .ok (.iconst 1, 1) := by decide +kernel
theorem dX7_append_35 : decode cX7_append 35 = .ok (.iadd, 1) := by decide +kernel
theorem dX7_append_36 : decode cX7_append 36 = .ok (.istore 6, 2) := by decide +kernel
theorem dX7_append_38 : decode cX7_append 38 = .ok (.iinc 7 1, 3) := by decide +kernel
theorem dX7_append_41 : decode cX7_append 41 = .ok (.goto (-35), 3) := by decide +kernel
theorem dX7_append_44 : decode cX7_append 44 = .ok (.aload_n 0, 1) := by decide +kernel
theorem dX7_append_45 : decode cX7_append 45 = .ok (.aload_n 0, 1) := by decide +kernel
theorem dX7_append_46 : decode cX7_append 46 = .ok (.getfield 81, 3) := by decide +kernel
theorem dX7_append_49 : decode cX7_append 49 = .ok (.iload 6, 2) := by decide +kernel
theorem dX7_append_51 : decode cX7_append 51 = .ok (.iadd, 1) := by decide +kernel
theorem dX7_append_52 : decode cX7_append 52 = .ok (.sipush 600, 3) := by decide +kernel
theorem dX7_append_55 : decode cX7_append 55 = .ok (.if_icmp .le 7, 3) := by decide +kernel
theorem dX7_append_58 : decode cX7_append 58 = .ok (.iconst 1, 1) := by decide +kernel
theorem dX7_append_59 : decode cX7_append 59 = .ok (.goto 4, 3) := by decide +kernel
theorem dX7_append_62 : decode cX7_append 62 = .ok (.iconst 0, 1) := by decide +kernel
theorem dX7_append_63 : decode cX7_append 63 = .ok (.putfield 59, 3) := by decide +kernel
theorem dX7_append_66 : decode cX7_append 66 = .ok (.aload_n 0, 1) := by decide +kernel
theorem dX7_append_67 : decode cX7_append 67 = .ok (.getfield 59, 3) := by decide +kernel
theorem dX7_append_70 : decode cX7_append 70 = .ok (.ifCond .le 5, 3) := by decide +kernel
theorem dX7_append_73 : decode cX7_append 73 = .ok (.iconst 0, 1) := by decide +kernel
theorem dX7_append_74 : decode cX7_append 74 = .ok (.ireturn, 1) := by decide +kernel
theorem dX7_append_75 : decode cX7_append 75 = .ok (.iconst 0, 1) := by decide +kernel
theorem dX7_append_76 : decode cX7_append 76 = .ok (.istore 7, 2) := by decide +kernel
theorem dX7_append_78 : decode cX7_append 78 = .ok (.iload 7, 2) := by decide +kernel
theorem dX7_append_80 : decode cX7_append 80 = .ok (.bipush 20, 2) := by decide +kernel
theorem dX7_append_82 : decode cX7_append 82 = .ok (.if_icmp .ge 52, 3) := by decide +kernel
theorem dX7_append_85 : decode cX7_append 85 = .ok (.iload 7, 2) := by decide +kernel
theorem dX7_append_87 : decode cX7_append 87 = .ok (.iload_n 1, 1) := by decide +kernel
theorem dX7_append_88 : decode cX7_append 88 = .ok (.iload_n 2, 1) := by decide +kernel
theorem dX7_append_89 : decode cX7_append 89 = .ok (.iload_n 3, 1) := by decide +kernel
theorem dX7_append_90 : decode cX7_append 90 = .ok (.iload 4, 2) := by decide +kernel
theorem dX7_append_92 : decode cX7_append 92 = .ok (.iload 5, 2) := by decide +kernel
theorem dX7_append_94 : decode cX7_append 94 = .ok (.invokestatic 77, 3) := by decide +kernel
theorem dX7_append_97 : decode cX7_append 97 = .ok (.istore 8, 2) := by decide +kernel
theorem dX7_append_99 : decode cX7_append 99 = .ok (.iload 8, 2) := by decide +kernel
theorem dX7_append_101 : decode cX7_append 101 = .ok (.ifCond .ne 6, 3) := by decide +kernel
theorem dX7_append_104 : decode cX7_append 104 = .ok (.goto 24, 3) := by decide +kernel
theorem dX7_append_107 : decode cX7_append 107 = .ok (.aload_n 0, 1) := by decide +kernel
theorem dX7_append_108 : decode cX7_append 108 = .ok (.getfield 29, 3) := by decide +kernel
theorem dX7_append_111 : decode cX7_append 111 = .ok (.aload_n 0, 1) := by decide +kernel
theorem dX7_append_112 : decode cX7_append 112 = .ok (.getfield 81, 3) := by decide +kernel
theorem dX7_append_115 : decode cX7_append 115 = .ok (.iload 8, 2) := by decide +kernel
theorem dX7_append_117 : decode cX7_append 117 = .ok (.iastore, 1) := by decide +kernel
theorem dX7_append_118 : decode cX7_append 118 = .ok (.aload_n 0, 1) := by decide +kernel
theorem dX7_append_119 : decode cX7_append 119 = .ok (.dup, 1) := by decide +kernel
theorem dX7_append_120 : decode cX7_append 120 = .ok (.getfield 81, 3) := by decide +kernel
theorem dX7_append_123 : decode cX7_append 123 = .ok (.iconst 1, 1) := by decide +kernel
theorem dX7_append_124 : decode cX7_append 124 = .ok (.iadd, 1) := by decide +kernel
theorem dX7_append_125 : decode cX7_append 125 = .ok (.putfield 81, 3) := by decide +kernel
theorem dX7_append_128 : decode cX7_append 128 = .ok (.iinc 7 1, 3) := by decide +kernel
theorem dX7_append_131 : decode cX7_append 131 = .ok (.goto (-53), 3) := by decide +kernel
theorem dX7_append_134 : decode cX7_append 134 = .ok (.aload_n 0, 1) := by decide +kernel
theorem dX7_append_135 : decode cX7_append 135 = .ok (.getfield 81, 3) := by decide +kernel
theorem dX7_append_138 : decode cX7_append 138 = .ok (.ireturn, 1) := by decide +kernel
theorem eX7_append {W : zWd} {L : List Int} {v0 v1 v2 v3 v4 : Int}  {Q : Option Value → zWd → Prop} {X : zX} (hz0 : zR v0) (hz1 : zR v1) (hz2 : zR v2) (hz3 : zR v3) (hz4 : zR v4) (hT : zMB W L) (hq : L.length + (aBz (byt v0 v1 v2 v3 v4) 20).length ≤ 600 → ∀ W' : zWd, zOfB W W' → W' 116 7 = 0 → zMB W' (L ++ aBz (byt v0 v1 v2 v3 v4) 20) → Q (some (zI ((L ++ aBz (byt v0 v1 v2 v3 v4) 20).length : Nat))) W') (hq1 : 600 < L.length + (aBz (byt v0 v1 v2 v3 v4) 20).length → ∀ W' : zWd, zOfB W W' → W' 116 7 = 1 → zMB W' L → Q (some (zI 0)) W') : Ev MX7_append 1 0 W [.ref 116, zI v0, zI v1, zI v2, zI v3, zI v4] Q X := by
  refine ev_of (ls := [.ref 116, zI v0, zI v1, zI v2, zI v3, zI v4, .null, .null, .null]) (by decide) rfl (fun _ => rfl) (fun _ => Nat.le_of_ble_eq_true rfl) (Or.inl rfl) ?_
  have hT6 := hT.2.1
  have loop2 : L.length + (aBz (byt v0 v1 v2 v3 v4) 20).length ≤ 600 → ∀ (x6 : Value) (n : Nat) (k : Nat) (Wk : zWd) (x8 : Value), k ≤ 20 → zOfB W Wk → zMB Wk (L ++ aBz (byt v0 v1 v2 v3 v4) k) → Wk 116 7 = 0 → 20 - k < n → RR MX7_append 1 0 Wk 78 [.ref 116, zI v0, zI v1, zI v2, zI v3, zI v4, x6, zI (k : Int), x8] [] (zEnd MX7_append Q X) X := by
    intro hle x6 n
    induction n with
    | zero => intro k Wk x8 _ _ _ _ hm9; omega
    | succ n ih =>
      intro k Wk x8 hk Ok uk t7 hm9
      refine rr_iload (pc := 78) dX7_append_78 rfl ?_
      refine rr_bipush (n := (20)) dX7_append_80 ?_
      refine rr_icmp_ge (pc := 82) (tgt := 134) dX7_append_82 (by decide) (by unfold zR; omega) (by unfold zR; omega) (fun h82 => ?_) (fun h82 => ?_)
      · refine rr_aload_n (pc := 134) dX7_append_134 rfl ?_
        refine rr_getI (pc := 135) (ji := 9) dX7_append_135 fX7_81 zk_116 zr_116_9 rfl ?_
        rw [uk.1, show k = 20 by omega]
        exact rr_reti (pc := 138) dX7_append_138 rfl rfl rfl rfl (hq hle Wk Ok t7 (by rw [show k = 20 by omega] at uk; exact uk))
      · refine rr_iload (pc := 85) dX7_append_85 rfl ?_
        refine rr_iload_n (pc := 87) dX7_append_87 rfl ?_
        refine rr_iload_n (pc := 88) dX7_append_88 rfl ?_
        refine rr_iload_n (pc := 89) dX7_append_89 rfl ?_
        refine rr_iload (pc := 90) dX7_append_90 rfl ?_
        refine rr_iload (pc := 92) dX7_append_92 rfl ?_
        refine rr_sta0 (M' := MX7_byteOf) (As := [_, _, _, _, _, _]) (pc := 94) dX7_append_94 lX7_77 kX7_byteOf sX7_byteOf (by decide) (by decide) (Nat.le_of_ble_eq_true rfl) rfl (eX7_byteOf (k := k) (by omega) hz0 hz1 hz2 hz3 hz4 ?_)
        have hbr : 0 ≤ byt v0 v1 v2 v3 v4 k ∧ byt v0 v1 v2 v3 v4 k ≤ 255 := bY_rng
        have hmn := @aBz_mono (byt v0 v1 v2 v3 v4) (k + 1) (20 - (k + 1))
        rw [show k + 1 + (20 - (k + 1)) = 20 by omega] at hmn
        refine rr_istore (pc := 97) dX7_append_97 (by decide) ?_
        refine rr_iload (pc := 99) dX7_append_99 rfl ?_
        refine rr_if_ne (pc := 101) (tgt := 107) dX7_append_101 (by decide) (by unfold zR; omega) (fun h101 => ?_) (fun h101 => ?_)
        · refine rr_aload_n (pc := 107) dX7_append_107 rfl ?_
          refine rr_getR (pc := 108) dX7_append_108 fX7_29 zk_116 zr_116_8 ?_
          refine rr_aload_n (pc := 111) dX7_append_111 rfl ?_
          refine rr_getI (pc := 112) (ji := 9) dX7_append_112 fX7_81 zk_116 zr_116_9 rfl ?_
          rw [uk.1]
          refine rr_iload (pc := 115) dX7_append_115 rfl ?_
          rw [aBz_n h101] at hmn
          have hll : (aBz (byt v0 v1 v2 v3 v4) k).length + 1 ≤ (aBz (byt v0 v1 v2 v3 v4) 20).length := by rw [List.length_append] at hmn; exact hmn
          have hlL : (L ++ aBz (byt v0 v1 v2 v3 v4) k).length < 600 := by rw [List.length_append]; omega
          refine rr_iast (pc := 117) dX7_append_117 zk_123 (by omega) (by omega) ?_
          refine rr_aload_n (pc := 118) dX7_append_118 rfl ?_
          refine rr_dup_r (pc := 119) dX7_append_119 ?_
          refine rr_getI (pc := 120) (ji := 9) dX7_append_120 fX7_81 zk_116 zr_116_9 rfl ?_
          rw [zup_other 116 (by decide), uk.1]
          refine rr_iconst (n := 1) dX7_append_123 ?_
          refine rr_iadd (pc := 124) dX7_append_124 ?_
          refine rr_put (pc := 125) (ji := 9) dX7_append_125 fX7_81 fp_7_9 zk_116 zr_116_9 rfl ?_
          refine rr_iinc (pc := 128) dX7_append_128 rfl (by decide) ?_
          refine rr_goto (pc := 131) (tgt := 78) dX7_append_131 (by decide) ?_
          refine ih (k + 1) _ _ (by omega) ⟨fun j g1 g2 => by rw [zup_other j g1, zup_other j g2]; exact Ok.1 j g1 g2, fun j g1 g2 => by rw [zup_i g2, zup_other 116 (by decide)]; exact Ok.2 j g1 g2⟩ (by rw [aBz_n h101, ← List.append_assoc]; exact uk.app hlL (by omega) (by omega)) (by rw [zup_i (by decide), zup_other 116 (by decide)]; exact t7) (by omega)
        · refine rr_goto (pc := 104) (tgt := 128) dX7_append_104 (by decide) ?_
          refine rr_iinc (pc := 128) dX7_append_128 rfl (by decide) ?_
          refine rr_goto (pc := 131) (tgt := 78) dX7_append_131 (by decide) ?_
          exact ih (k + 1) Wk _ (by omega) Ok (by rw [aBz_y h101]; exact uk) t7 (by omega)
  have mid : RR MX7_append 1 0 W 44 [.ref 116, zI v0, zI v1, zI v2, zI v3, zI v4, zI ((aBz (byt v0 v1 v2 v3 v4) 20).length : Nat), zI ((20 : Nat) : Int), .null] [] (zEnd MX7_append Q X) X := by
    refine rr_aload_n (pc := 44) dX7_append_44 rfl ?_
    refine rr_aload_n (pc := 45) dX7_append_45 rfl ?_
    refine rr_getI (pc := 46) (ji := 9) dX7_append_46 fX7_81 zk_116 zr_116_9 rfl ?_
    rw [hT.1]
    refine rr_iload (pc := 49) dX7_append_49 rfl ?_
    refine rr_iadd (pc := 51) dX7_append_51 ?_
    refine rr_sipush (n := (600)) dX7_append_52 ?_
    have hln := @aBz_len (byt v0 v1 v2 v3 v4) 20
    refine rr_icmp_le (pc := 55) (tgt := 62) dX7_append_55 (by decide) (by unfold zR; omega) (by unfold zR; omega) (fun h55 => ?_) (fun h55 => ?_)
    · refine rr_iconst (n := 0) dX7_append_62 ?_
      refine rr_put (pc := 63) (ji := 7) dX7_append_63 fX7_59 fp_7_7 zk_116 zr_116_7 rfl ?_
      have t1 : zup W 116 7 0 116 7 = 0 := zup_s
      have o1 : zOfB W (zup W 116 7 0) := ⟨fun j g1 g2 => zup_other j g1, fun j g1 g2 => zup_i g1⟩
      have u1 : zMB (zup W 116 7 0) L := ⟨by rw [zup_i (by decide)]; exact hT.1, hT.2.1, hT.2.2.1, fun k hk => by rw [zup_other 123 (by decide)]; exact hT.2.2.2 k hk⟩
      have hle : L.length + (aBz (byt v0 v1 v2 v3 v4) 20).length ≤ 600 := by omega
      generalize zup W 116 7 0 = W1 at t1 o1 u1 ⊢
      refine rr_aload_n (pc := 66) dX7_append_66 rfl ?_
      refine rr_getI (pc := 67) (ji := 7) dX7_append_67 fX7_59 zk_116 zr_116_7 rfl ?_
      rw [t1]
      refine rr_if_le (pc := 70) (tgt := 75) dX7_append_70 (by decide) (by unfold zR; omega) (fun h70 => ?_) (fun h70 => ?_)
      · refine rr_iconst (n := 0) dX7_append_75 ?_
        refine rr_istore (pc := 76) dX7_append_76 (by decide) ?_
        exact loop2 hle _ _ 0 W1 _ (Nat.zero_le _) o1 (by rw [show aBz (byt v0 v1 v2 v3 v4) 0 = [] from rfl, List.append_nil]; exact u1) t1 (Nat.lt_succ_self _)
      · omega
    · refine rr_iconst (n := 1) dX7_append_58 ?_
      refine rr_goto (pc := 59) (tgt := 63) dX7_append_59 (by decide) ?_
      refine rr_put (pc := 63) (ji := 7) dX7_append_63 fX7_59 fp_7_7 zk_116 zr_116_7 rfl ?_
      have t1 : zup W 116 7 1 116 7 = 1 := zup_s
      refine rr_aload_n (pc := 66) dX7_append_66 rfl ?_
      refine rr_getI (pc := 67) (ji := 7) dX7_append_67 fX7_59 zk_116 zr_116_7 rfl ?_
      rw [t1]
      refine rr_if_le (pc := 70) (tgt := 75) dX7_append_70 (by decide) (by unfold zR; omega) (fun h70 => ?_) (fun h70 => ?_)
      · omega
      · refine rr_iconst (n := 0) dX7_append_73 ?_
        exact rr_reti (pc := 74) dX7_append_74 rfl rfl rfl rfl (hq1 (by omega) _ ⟨fun j g1 g2 => zup_other j g1, fun j g1 g2 => zup_i g1⟩ t1 ⟨by rw [zup_i (by decide)]; exact hT.1, hT.2.1, hT.2.2.1, fun k hk => by rw [zup_other 123 (by decide)]; exact hT.2.2.2 k hk⟩)
  have loop : ∀ (n : Nat) (k : Nat), k ≤ 20 → 20 - k < n → RR MX7_append 1 0 W 6 [.ref 116, zI v0, zI v1, zI v2, zI v3, zI v4, zI ((aBz (byt v0 v1 v2 v3 v4) k).length : Nat), zI (k : Int), .null] [] (zEnd MX7_append Q X) X := by
    intro n
    induction n with
    | zero => intro k _ hm9; omega
    | succ n ih =>
      intro k hk hm9
      refine rr_iload (pc := 6) dX7_append_6 rfl ?_
      refine rr_bipush (n := (20)) dX7_append_8 ?_
      refine rr_icmp_ge (pc := 10) (tgt := 44) dX7_append_10 (by decide) (by unfold zR; omega) (by unfold zR; omega) (fun h10 => ?_) (fun h10 => ?_)
      · rw [show k = 20 by omega]
        exact mid
      · refine rr_iload (pc := 13) dX7_append_13 rfl ?_
        refine rr_iload (pc := 15) dX7_append_15 rfl ?_
        refine rr_iload_n (pc := 17) dX7_append_17 rfl ?_
        refine rr_iload_n (pc := 18) dX7_append_18 rfl ?_
        refine rr_iload_n (pc := 19) dX7_append_19 rfl ?_
        refine rr_iload (pc := 20) dX7_append_20 rfl ?_
        refine rr_iload (pc := 22) dX7_append_22 rfl ?_
        have hln := @aBz_len (byt v0 v1 v2 v3 v4) k
        refine rr_sta0 (M' := MX7_byteOf) (As := [_, _, _, _, _, _]) (pc := 24) dX7_append_24 lX7_77 kX7_byteOf sX7_byteOf (by decide) (by decide) (Nat.le_of_ble_eq_true rfl) rfl (eX7_byteOf (k := k) (by omega) hz0 hz1 hz2 hz3 hz4 ?_)
        have hbr : 0 ≤ byt v0 v1 v2 v3 v4 k ∧ byt v0 v1 v2 v3 v4 k ≤ 255 := bY_rng
        refine rr_if_ne (pc := 27) (tgt := 34) dX7_append_27 (by decide) (by unfold zR; omega) (fun h27 => ?_) (fun h27 => ?_)
        · refine rr_iconst (n := 1) dX7_append_34 ?_
          refine rr_iadd (pc := 35) dX7_append_35 ?_
          refine rr_istore (pc := 36) dX7_append_36 (by decide) ?_
          refine rr_iinc (pc := 38) dX7_append_38 rfl (by decide) ?_
          refine rr_goto (pc := 41) (tgt := 6) dX7_append_41 (by decide) ?_
          refine rr_eqL ?_ (ih (k + 1) (by omega) (by omega))
          rw [aBz_n h27, show (((aBz (byt v0 v1 v2 v3 v4) k ++ [byt v0 v1 v2 v3 v4 k]).length : Nat) : Int) = ((aBz (byt v0 v1 v2 v3 v4) k).length : Int) + 1 by rw [List.length_append]; rfl, show ((k + 1 : Nat) : Int) = (k : Int) + 1 by omega]
          rfl
        · refine rr_iconst (n := 0) dX7_append_30 ?_
          refine rr_goto (pc := 31) (tgt := 35) dX7_append_31 (by decide) ?_
          refine rr_iadd (pc := 35) dX7_append_35 ?_
          refine rr_istore (pc := 36) dX7_append_36 (by decide) ?_
          refine rr_iinc (pc := 38) dX7_append_38 rfl (by decide) ?_
          refine rr_goto (pc := 41) (tgt := 6) dX7_append_41 (by decide) ?_
          refine rr_eqL ?_ (ih (k + 1) (by omega) (by omega))
          rw [aBz_y h27, show (((aBz (byt v0 v1 v2 v3 v4) k).length : Nat) : Int) = ((aBz (byt v0 v1 v2 v3 v4) k).length : Int) + 0 by omega, show ((k + 1 : Nat) : Int) = (k : Int) + 1 by omega]
          rfl
  refine rr_iconst (n := 0) dX7_append_0 ?_
  refine rr_istore (pc := 1) dX7_append_1 (by decide) ?_
  refine rr_iconst (n := 0) dX7_append_3 ?_
  refine rr_istore (pc := 4) dX7_append_4 (by decide) ?_
  exact loop _ 0 (Nat.zero_le _) (Nat.lt_succ_self _)
