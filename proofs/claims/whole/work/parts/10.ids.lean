/-! the ids: by program (wip/whole/gen/ids.py) -/
theorem zk_96 : zk 96 = (6, 0) := by decide
theorem zr_96_0 : zr 96 0 = some 0 := by decide
theorem zr_96_1 : zr 96 1 = some 8 := by decide
theorem zr_96_2 : zr 96 2 = some 97 := by decide
theorem zr_96_3 : zr 96 3 = some 108 := by decide
theorem zr_96_4 : zr 96 4 = some 110 := by decide
theorem zr_96_5 : zr 96 5 = some 111 := by decide
theorem zr_96_6 : zr 96 6 = some 112 := by decide
theorem zr_96_7 : zr 96 7 = some 114 := by decide
theorem zk_97 : zk 97 = (1, 0) := by decide
theorem zr_97_0 : zr 97 0 = some 98 := by decide
theorem zr_97_1 : zr 97 1 = some 103 := by decide
theorem zk_98 : zk 98 = (4, 0) := by decide
theorem zr_98_0 : zr 98 0 = none := by decide
theorem zr_98_1 : zr 98 1 = none := by decide
theorem zr_98_2 : zr 98 2 = none := by decide
theorem zr_98_3 : zr 98 3 = some 99 := by decide
theorem zr_98_4 : zr 98 4 = none := by decide
theorem zr_98_5 : zr 98 5 = none := by decide
theorem zr_98_6 : zr 98 6 = none := by decide
theorem zr_98_7 : zr 98 7 = none := by decide
theorem zr_98_8 : zr 98 8 = some 100 := by decide
theorem zr_98_9 : zr 98 9 = some 101 := by decide
theorem zr_98_10 : zr 98 10 = some 102 := by decide
theorem zk_99 : zk 99 = (10, 11) := by decide
theorem zk_100 : zk 100 = (10, 12) := by decide
theorem zk_101 : zk 101 = (10, 120) := by decide
theorem zk_102 : zk 102 = (10, 120) := by decide
theorem zk_103 : zk 103 = (4, 0) := by decide
theorem zr_103_0 : zr 103 0 = none := by decide
theorem zr_103_1 : zr 103 1 = none := by decide
theorem zr_103_2 : zr 103 2 = none := by decide
theorem zr_103_3 : zr 103 3 = some 104 := by decide
theorem zr_103_4 : zr 103 4 = none := by decide
theorem zr_103_5 : zr 103 5 = none := by decide
theorem zr_103_6 : zr 103 6 = none := by decide
theorem zr_103_7 : zr 103 7 = none := by decide
theorem zr_103_8 : zr 103 8 = some 105 := by decide
theorem zr_103_9 : zr 103 9 = some 106 := by decide
theorem zr_103_10 : zr 103 10 = some 107 := by decide
theorem zk_104 : zk 104 = (10, 11) := by decide
theorem zk_105 : zk 105 = (10, 12) := by decide
theorem zk_106 : zk 106 = (10, 120) := by decide
theorem zk_107 : zk 107 = (10, 120) := by decide
theorem zk_108 : zk 108 = (2, 0) := by decide
theorem zr_108_0 : zr 108 0 = some 109 := by decide
theorem zr_108_1 : zr 108 1 = none := by decide
theorem zr_108_2 : zr 108 2 = none := by decide
theorem zk_109 : zk 109 = (13, 8) := by decide
theorem zk_110 : zk 110 = (13, 2) := by decide
theorem zk_111 : zk 111 = (12, 2) := by decide
theorem zk_112 : zk 112 = (3, 0) := by decide
theorem zr_112_0 : zr 112 0 = some 113 := by decide
theorem zr_112_1 : zr 112 1 = none := by decide
theorem zr_112_2 : zr 112 2 = none := by decide
theorem zr_112_3 : zr 112 3 = none := by decide
theorem zr_112_4 : zr 112 4 = none := by decide
theorem zr_112_5 : zr 112 5 = none := by decide
theorem zr_112_6 : zr 112 6 = none := by decide
theorem zk_113 : zk 113 = (11, 600) := by decide
theorem zk_114 : zk 114 = (5, 0) := by decide
theorem zr_114_0 : zr 114 0 = some 115 := by decide
theorem zr_114_1 : zr 114 1 = none := by decide
theorem zk_115 : zk 115 = (11, 300) := by decide
theorem zk_116 : zk 116 = (7, 0) := by decide
theorem zr_116_0 : zr 116 0 = some 117 := by decide
theorem zr_116_1 : zr 116 1 = some 118 := by decide
theorem zr_116_2 : zr 116 2 = some 119 := by decide
theorem zr_116_3 : zr 116 3 = some 120 := by decide
theorem zr_116_4 : zr 116 4 = some 121 := by decide
theorem zr_116_5 : zr 116 5 = some 122 := by decide
theorem zr_116_6 : zr 116 6 = none := by decide
theorem zr_116_7 : zr 116 7 = none := by decide
theorem zr_116_8 : zr 116 8 = some 123 := by decide
theorem zr_116_9 : zr 116 9 = none := by decide
theorem zr_116_10 : zr 116 10 = none := by decide
theorem zr_116_11 : zr 116 11 = none := by decide
theorem zr_116_12 : zr 116 12 = none := by decide
theorem zr_116_13 : zr 116 13 = none := by decide
theorem zr_116_14 : zr 116 14 = none := by decide
theorem zr_116_15 : zr 116 15 = none := by decide
theorem zr_116_16 : zr 116 16 = none := by decide
theorem zr_116_17 : zr 116 17 = some 124 := by decide
theorem zr_116_18 : zr 116 18 = some 125 := by decide
theorem zr_116_19 : zr 116 19 = some 126 := by decide
theorem zr_116_20 : zr 116 20 = none := by decide
theorem zr_116_21 : zr 116 21 = none := by decide
theorem zr_116_22 : zr 116 22 = none := by decide
theorem zr_116_23 : zr 116 23 = none := by decide
theorem zr_116_24 : zr 116 24 = none := by decide
theorem zr_116_25 : zr 116 25 = some 127 := by decide
theorem zr_116_26 : zr 116 26 = none := by decide
theorem zk_117 : zk 117 = (10, 160) := by decide
theorem zk_118 : zk 118 = (10, 160) := by decide
theorem zk_119 : zk 119 = (10, 160) := by decide
theorem zk_120 : zk 120 = (10, 1280) := by decide
theorem zk_121 : zk 121 = (10, 320) := by decide
theorem zk_122 : zk 122 = (12, 2) := by decide
theorem zk_123 : zk 123 = (10, 600) := by decide
theorem zk_124 : zk 124 = (10, 120) := by decide
theorem zk_125 : zk 125 = (10, 12) := by decide
theorem zk_126 : zk 126 = (10, 12) := by decide
theorem zk_127 : zk 127 = (10, 400) := by decide
theorem zk_128 : zk 128 = (14, 1) := by decide
def zCt (c : Nat) : Prop := ∃ i : Nat, i < 12 ∧ c = 8 * i
theorem zCt.k {c : Nat} (h : zCt c) : zk c = (0, 0) := by obtain ⟨i, hi, rfl⟩ := h; exact (show ∀ i, i < 12 → (fun c => zk c = (0, 0)) (8 * i) by decide) i hi
theorem zCt.i0 {c : Nat} (h : zCt c) : zr c 0 = none := by obtain ⟨i, hi, rfl⟩ := h; exact (show ∀ i, i < 12 → (fun c => zr c 0 = none) (8 * i) by decide) i hi
theorem zCt.i1 {c : Nat} (h : zCt c) : zr c 1 = none := by obtain ⟨i, hi, rfl⟩ := h; exact (show ∀ i, i < 12 → (fun c => zr c 1 = none) (8 * i) by decide) i hi
theorem zCt.i2 {c : Nat} (h : zCt c) : zr c 2 = none := by obtain ⟨i, hi, rfl⟩ := h; exact (show ∀ i, i < 12 → (fun c => zr c 2 = none) (8 * i) by decide) i hi
theorem zCt.i3 {c : Nat} (h : zCt c) : zr c 3 = none := by obtain ⟨i, hi, rfl⟩ := h; exact (show ∀ i, i < 12 → (fun c => zr c 3 = none) (8 * i) by decide) i hi
theorem zCt.i4 {c : Nat} (h : zCt c) : zr c 4 = none := by obtain ⟨i, hi, rfl⟩ := h; exact (show ∀ i, i < 12 → (fun c => zr c 4 = none) (8 * i) by decide) i hi
theorem zCt.i5 {c : Nat} (h : zCt c) : zr c 5 = none := by obtain ⟨i, hi, rfl⟩ := h; exact (show ∀ i, i < 12 → (fun c => zr c 5 = none) (8 * i) by decide) i hi
theorem zCt.i6 {c : Nat} (h : zCt c) : zr c 6 = none := by obtain ⟨i, hi, rfl⟩ := h; exact (show ∀ i, i < 12 → (fun c => zr c 6 = none) (8 * i) by decide) i hi
theorem zCt.i7 {c : Nat} (h : zCt c) : zr c 7 = none := by obtain ⟨i, hi, rfl⟩ := h; exact (show ∀ i, i < 12 → (fun c => zr c 7 = none) (8 * i) by decide) i hi
theorem zCt.r8 {c : Nat} (h : zCt c) : zr c 8 = some (c + 1) := by obtain ⟨i, hi, rfl⟩ := h; exact (show ∀ i, i < 12 → (fun c => zr c 8 = some (c + 1)) (8 * i) by decide) i hi
theorem zCt.r9 {c : Nat} (h : zCt c) : zr c 9 = some (c + 2) := by obtain ⟨i, hi, rfl⟩ := h; exact (show ∀ i, i < 12 → (fun c => zr c 9 = some (c + 2)) (8 * i) by decide) i hi
theorem zCt.r10 {c : Nat} (h : zCt c) : zr c 10 = some (c + 3) := by obtain ⟨i, hi, rfl⟩ := h; exact (show ∀ i, i < 12 → (fun c => zr c 10 = some (c + 3)) (8 * i) by decide) i hi
theorem zCt.r11 {c : Nat} (h : zCt c) : zr c 11 = some (c + 4) := by obtain ⟨i, hi, rfl⟩ := h; exact (show ∀ i, i < 12 → (fun c => zr c 11 = some (c + 4)) (8 * i) by decide) i hi
theorem zCt.r12 {c : Nat} (h : zCt c) : zr c 12 = some (c + 5) := by obtain ⟨i, hi, rfl⟩ := h; exact (show ∀ i, i < 12 → (fun c => zr c 12 = some (c + 5)) (8 * i) by decide) i hi
theorem zCt.r13 {c : Nat} (h : zCt c) : zr c 13 = some (c + 6) := by obtain ⟨i, hi, rfl⟩ := h; exact (show ∀ i, i < 12 → (fun c => zr c 13 = some (c + 6)) (8 * i) by decide) i hi
theorem zCt.r14 {c : Nat} (h : zCt c) : zr c 14 = some (c + 7) := by obtain ⟨i, hi, rfl⟩ := h; exact (show ∀ i, i < 12 → (fun c => zr c 14 = some (c + 7)) (8 * i) by decide) i hi
theorem zCt.a1 {c : Nat} (h : zCt c) : zk (c + 1) = (10, 11) := by obtain ⟨i, hi, rfl⟩ := h; exact (show ∀ i, i < 12 → (fun c => zk (c + 1) = (10, 11)) (8 * i) by decide) i hi
theorem zCt.a2 {c : Nat} (h : zCt c) : zk (c + 2) = (10, 21) := by obtain ⟨i, hi, rfl⟩ := h; exact (show ∀ i, i < 12 → (fun c => zk (c + 2) = (10, 21)) (8 * i) by decide) i hi
theorem zCt.a3 {c : Nat} (h : zCt c) : zk (c + 3) = (10, 21) := by obtain ⟨i, hi, rfl⟩ := h; exact (show ∀ i, i < 12 → (fun c => zk (c + 3) = (10, 21)) (8 * i) by decide) i hi
theorem zCt.a4 {c : Nat} (h : zCt c) : zk (c + 4) = (10, 21) := by obtain ⟨i, hi, rfl⟩ := h; exact (show ∀ i, i < 12 → (fun c => zk (c + 4) = (10, 21)) (8 * i) by decide) i hi
theorem zCt.a5 {c : Nat} (h : zCt c) : zk (c + 5) = (10, 60) := by obtain ⟨i, hi, rfl⟩ := h; exact (show ∀ i, i < 12 → (fun c => zk (c + 5) = (10, 60)) (8 * i) by decide) i hi
theorem zCt.a6 {c : Nat} (h : zCt c) : zk (c + 6) = (11, 48) := by obtain ⟨i, hi, rfl⟩ := h; exact (show ∀ i, i < 12 → (fun c => zk (c + 6) = (11, 48)) (8 * i) by decide) i hi
theorem zCt.a7 {c : Nat} (h : zCt c) : zk (c + 7) = (10, 6) := by obtain ⟨i, hi, rfl⟩ := h; exact (show ∀ i, i < 12 → (fun c => zk (c + 7) = (10, 6)) (8 * i) by decide) i hi
def zWy (w : Nat) : Prop := w = 98 ∨ w = 103
theorem zWy.k {c : Nat} (h : zWy c) : zk c = (4, 0) := by rcases h with rfl | rfl <;> decide
theorem zWy.i0 {c : Nat} (h : zWy c) : zr c 0 = none := by rcases h with rfl | rfl <;> decide
theorem zWy.i1 {c : Nat} (h : zWy c) : zr c 1 = none := by rcases h with rfl | rfl <;> decide
theorem zWy.i2 {c : Nat} (h : zWy c) : zr c 2 = none := by rcases h with rfl | rfl <;> decide
theorem zWy.r3 {c : Nat} (h : zWy c) : zr c 3 = some (c + 1) := by rcases h with rfl | rfl <;> decide
theorem zWy.i4 {c : Nat} (h : zWy c) : zr c 4 = none := by rcases h with rfl | rfl <;> decide
theorem zWy.i5 {c : Nat} (h : zWy c) : zr c 5 = none := by rcases h with rfl | rfl <;> decide
theorem zWy.i6 {c : Nat} (h : zWy c) : zr c 6 = none := by rcases h with rfl | rfl <;> decide
theorem zWy.i7 {c : Nat} (h : zWy c) : zr c 7 = none := by rcases h with rfl | rfl <;> decide
theorem zWy.r8 {c : Nat} (h : zWy c) : zr c 8 = some (c + 2) := by rcases h with rfl | rfl <;> decide
theorem zWy.r9 {c : Nat} (h : zWy c) : zr c 9 = some (c + 3) := by rcases h with rfl | rfl <;> decide
theorem zWy.r10 {c : Nat} (h : zWy c) : zr c 10 = some (c + 4) := by rcases h with rfl | rfl <;> decide
theorem zWy.a1 {c : Nat} (h : zWy c) : zk (c + 1) = (10, 11) := by rcases h with rfl | rfl <;> decide
theorem zWy.a2 {c : Nat} (h : zWy c) : zk (c + 2) = (10, 12) := by rcases h with rfl | rfl <;> decide
theorem zWy.a3 {c : Nat} (h : zWy c) : zk (c + 3) = (10, 120) := by rcases h with rfl | rfl <;> decide
theorem zWy.a4 {c : Nat} (h : zWy c) : zk (c + 4) = (10, 120) := by rcases h with rfl | rfl <;> decide
theorem zCt_0 : zCt 0 := ⟨0, by decide, rfl⟩
theorem zCt_8 : zCt 8 := ⟨1, by decide, rfl⟩
theorem zr_109 {i : Int} (h0 : 0 ≤ i) (h1 : i < 8) : zr 109 i.toNat = some (16 + 8 * i.toNat) := (show ∀ j, j < 8 → zr 109 j = some (16 + 8 * j) by decide) _ (by omega)
theorem zr_110 {i : Int} (h0 : 0 ≤ i) (h1 : i < 2) : zr 110 i.toNat = some (80 + 8 * i.toNat) := (show ∀ j, j < 2 → zr 110 j = some (80 + 8 * j) by decide) _ (by omega)
theorem zCt_h {i : Int} (h0 : 0 ≤ i) (h1 : i < 8) : zCt (16 + 8 * i.toNat) := ⟨2 + i.toNat, by omega, by omega⟩
theorem zCt_s {i : Int} (h0 : 0 ≤ i) (h1 : i < 2) : zCt (80 + 8 * i.toNat) := ⟨10 + i.toNat, by omega, by omega⟩
theorem zCt.lt {c : Nat} (h : zCt c) : c + 7 < 96 := by obtain ⟨i, hi, rfl⟩ := h; omega
section ZG
variable {M : zM} {d t : Nat} {W₀ W₁ : zWd} {pc : Nat} {ls st : List Value} {Q : Option Value → zWd → Prop} {X : zX}
theorem rr_reti {z z' : Int} {ty : FieldType} (hd : decode M.2.1 pc = .ok (.ireturn, 1)) (hr : M.2.2.2.2 = some ty) (hn : narrow ty (zI z) = zI z) (hz : z = z') (hW : W₀ = W₁) (h : Q (some (zI z')) W₁) : RR M d t W₀ pc ls [zI z] (zEnd M Q X) X :=
  rr_base (Or.inr (Or.inl ⟨ty, z, hr, hd, rfl, hn, by rw [hz, hW]; exact h⟩))
theorem rr_retv (hd : decode M.2.1 pc = .ok (.return_, 1)) (hr : M.2.2.2.2 = none) (hW : W₀ = W₁) (h : Q none W₁) : RR M d t W₀ pc ls [] (zEnd M Q X) X :=
  rr_base (Or.inl ⟨hr, hd, rfl, by rw [hW]; exact h⟩)
theorem rr_reta {C : String} {k : Nat} (hd : decode M.2.1 pc = .ok (.areturn, 1)) (hr : M.2.2.2.2 = some (.object C)) (hW : W₀ = W₁) (h : Q (some (.ref k)) W₁) : RR M d t W₀ pc ls [.ref k] (zEnd M Q X) X :=
  rr_base (Or.inr (Or.inr (Or.inl ⟨C, k, hr, hd, rfl, by rw [hW]; exact h⟩)))
theorem rr_thr {E : String} (ht : 1 ≤ t) (hth : zThrow M pc E ∨ zThrowW M pc E) (h : X E W₀) : RR M d t W₀ pc ls [] (zEnd M Q X) X :=
  rr_base (Or.inr (Or.inr (Or.inr ⟨E, hth, rfl, ht, h⟩)))
end ZG
