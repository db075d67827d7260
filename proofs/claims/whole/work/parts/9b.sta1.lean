def zRo : List Nat := [1, 2, 3, 4, 5, 6, 7, 8, 9, 10, 11, 12, 13, 14, 15, 16, 30, 31, 32, 33, 34, 35, 36, 37, 38, 39, 40, 41, 42, 43, 44, 45, 46, 47, 48, 49, 50, 51, 52, 53, 54, 55, 56, 57, 58, 59, 60, 61, 62, 63, 64, 65, 66, 67, 68, 69, 70, 71, 72, 73, 74, 75, 76, 77, 78, 79, 80, 81, 82, 83, 84, 85, 86, 87, 88, 89, 90, 91, 92, 93, 95, 96, 97, 98, 99, 100, 101, 102, 103, 104, 105, 106, 107, 108, 109, 110, 0, 17, 18, 19, 20, 21, 22, 23, 24, 25, 26, 27, 28, 29, 94, 111, 112, 113, 114, 115, 116, 117, 118, 119, 120, 121, 122, 123, 124, 125, 126, 127, 128]
def zro (k : Nat) : Nat := zRo.getD k 0
theorem zro_ok : ∀ k, k < 129 → zro k < 129 ∧ zov (zro k) = k := by decide +kernel
theorem arrV_cg {cA : ClassId} {n : Nat} {f g : Nat → Value} (h : ∀ j, j < n → f j = g j) : arrV cA n f = arrV cA n g := by
  unfold arrV
  congr 1
  apply Array.ext
  · simp
  · intro i h1 h2
    simp at h1 h2
    simp [h i h1]
theorem zk_obj0 : ∀ k, k < 129 → (zk k).1 < 8 → zk k = ((zk k).1, 0) := by decide +kernel
/-- all is made: the world as the rules of the calls want it -/
theorem zww_all {D : va_G} {Y : zY} {ad : Nat → Nat} {W : zWd} {H : Heap} (hP : va_P D vwCl (zww Y ad W 129) H) (hr : ∀ k : Nat, k < 129 → ∀ j : Nat, j < zrl k → zr k j ≠ none → W k j ≠ 0) : va_P D vwCl (zws Y ad W) H := by
  intro k q hq
  rcases Nat.lt_or_ge k 129 with hk | hk
  · rw [zws_at Y ad W hk] at hq
    cases hq
    obtain ⟨n1, n2⟩ := zro_ok k hk
    have h9 := hP (zro k) _ (zww_at Y ad W n1 n2)
    by_cases h13 : (zk k).1 = 13
    · obtain ⟨n, hz⟩ : ∃ n, zk k = (13, n) := ⟨(zk k).2, by rw [← h13]⟩
      rw [zcw_refs Y ad W hz] at h9
      show va_at D vwCl (ad k, zc Y ad W k) H
      rw [zc_refs Y ad W hz]
      have h8 : H[ad k]? = some (vp_cell Y.2.2.2.1 (n, .inr (.inr (.inr (.inr (fun j => if j < n ∧ W k j ≠ 0 then (zr k j).map ad else none)))))) := h9
      show H[ad k]? = some (vp_cell Y.2.2.2.1 (n, .inr (.inr (.inr (.inr (fun j => (zr k j).map ad))))))
      rw [h8, vp_cell_q, vp_cell_q]
      congr 1
      refine arrV_cg (fun j hj => ?_)
      cases hrj : zr k j with
      | none => show va_rf (if _ then _ else _) = _; split <;> rfl
      | some r =>
        rw [if_pos ⟨hj, hr k hk j (by unfold zrl; rw [if_pos h13, hz]; exact hj) (by rw [hrj]; simp)⟩]
    · by_cases h8 : (zk k).1 < 8
      · obtain ⟨ci, hz⟩ : ∃ ci, zk k = (ci, 0) := ⟨(zk k).1, zk_obj0 k hk h8⟩
        rw [hz] at h8
        rw [zcw_obj Y ad W hz h8] at h9
        show va_at D vwCl (ad k, zc Y ad W k) H
        rw [zc_obj Y ad W hz h8]
        have e9 : (List.range (znf ci)).map (zfw ad W k) = (List.range (znf ci)).map (zfv ad W k) := by
          refine List.map_congr_left (fun j hj => ?_)
          have hj := List.mem_range.mp hj
          unfold zfw zfv
          cases hrj : zr k j with
          | none => rfl
          | some r =>
            show (if W k j = 0 then _ else _) = _
            rw [if_neg (hr k hk j (by unfold zrl; rw [if_neg h13, hz]; exact hj) (by rw [hrj]; simp))]
        rw [← e9]
        exact h9
      · rw [zcw_z Y ad W (k := k) (c := (zk k).1) (n := (zk k).2) rfl h13 (by omega)] at h9
        exact h9
  · rw [List.getElem?_eq_none (by simp [zws]; exact hk)] at hq
    cases hq
theorem zAd_all {Y : zY} {ad : Nat → Nat} {W : zWd} {A : Nat → Prop} (hD : va_D A (zww Y ad W 129)) : zAd ad A := by
  refine ⟨fun i j hi hj e => ?_, fun k hk => ?_⟩
  · obtain ⟨a1, a2⟩ := zro_ok i hi
    obtain ⟨b1, b2⟩ := zro_ok j hj
    have h9 := hD.1 (zro i) (zro j) _ _ (zww_at Y ad W a1 a2) (zww_at Y ad W b1 b2) e
    rw [← a2, ← b2, h9]
  · obtain ⟨a1, a2⟩ := zro_ok k hk
    exact hD.2 (zro k) _ (zww_at Y ad W a1 a2)
/-- the strings' addresses, the script's -/
theorem zE_get {s : State} {args : Array Value} {A : Nat → Prop} (ht : ∀ w ∈ lw_tbl, w.before args s = true) (hg : ∀ w ∈ zF9, w.before args s = true) (hA : ∀ a : Nat, a < s.heap.size → ¬ A a) (b : Nat) : ∃ ad : Nat → Nat, ad 1300 = b ∧ ∀ (D : va_G) (Y : zY), zEL D Y s → ∀ ad' : Nat → Nat, (∀ k : Nat, 129 ≤ k → ad' k = ad k) → zE D Y ad' A s := by
  have h1 : ∀ i : Nat, ∃ z : Nat × Nat, ∀ q, zStrs[i]? = some q → zStr1 q z.1 z.2 A s := by
    intro i
    cases hq : zStrs[i]? with
    | none => exact ⟨(0, 0), fun q h => by cases h⟩
    | some q =>
      obtain ⟨a, v, h⟩ := zStr_get ht hg hA hq
      exact ⟨(a, v), fun q' h' => by cases h'; exact h⟩
  obtain ⟨f, hf⟩ := Classical.axiomOfChoice h1
  obtain ⟨s1, s2, s3, s4, -⟩ := zSt_get ht hg hA
  have hi : ∀ i q, zStrs[i]? = some q → i < 38 := fun i q h => (List.getElem?_eq_some_iff.mp h).1
  have key : ∀ t : Nat, (va_Z "jdk/internal/util/Preconditions" "SIOOBE_FORMATTER" "Ljava/util/function/BiFunction;" (.ref t) A s s.heap ∨ va_Z "jdk/internal/util/Preconditions" "SIOOBE_FORMATTER" "Ljava/util/function/BiFunction;" .null A s s.heap) → ∃ ad : Nat → Nat, ad 1300 = b ∧ ∀ (D : va_G) (Y : zY), zEL D Y s → ∀ ad' : Nat → Nat, (∀ k : Nat, 129 ≤ k → ad' k = ad k) → zE D Y ad' A s := by
    intro t hFm
    refine ⟨fun k => if k < 1100 then (f (k - 1000)).1 else if k < 1200 then (f (k - 1100)).2 else if k = 1200 then t else b, rfl, fun D Y hE ad' ha => ⟨hE.1, hE.2.1, s1, s2, fun i q hq => ?_, s3, ?_⟩⟩
    · have h38 := hi i q hq
      rw [ha (1000 + i) (by omega), ha (1100 + i) (by omega)]
      show zStr1 q (if 1000 + i < 1100 then (f (1000 + i - 1000)).1 else _) (if 1100 + i < 1100 then _ else if 1100 + i < 1200 then (f (1100 + i - 1100)).2 else _) A s
      rw [if_pos (by omega), if_neg (by omega), if_pos (by omega), show 1000 + i - 1000 = i by omega, show 1100 + i - 1100 = i by omega]
      exact hf i q hq
    · rw [ha 1200 (by omega)]
      exact hFm
  rcases s4 with h | ⟨t, h⟩
  · exact key 0 (Or.inr h)
  · exact key t (Or.inl h)
