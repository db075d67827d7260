theorem rs_bool {b L : Nat} {xs : Nat → Int32} {t : Nat} {W : zWd} {pc : Nat} {ls st : List Value} {v : Int} {o1 o2 : Int} {t1 : Nat} (d0 : decode cL_law pc = .ok (.ifCond .eq o1, 3)) (h1 : (pc : Int) + o1 = (t1 : Int)) (hv : zR v) (d3 : decode cL_law (pc + 3) = .ok (.iconst 1, 1)) (d4 : decode cL_law (pc + 4) = .ok (.goto o2, 3)) (h2 : ((pc + 4 : Nat) : Int) + o2 = ((t1 + 1 : Nat) : Int)) (d7 : decode cL_law t1 = .ok (.iconst 0, 1))
    (k : RS b L xs t W (t1 + 1) ls (zI (if v = 0 then 0 else 1) :: st)) : RS b L xs t W pc ls (zI v :: st) := by
  refine rs_if_eq d0 h1 hv (fun h => ?_) (fun h => ?_)
  · rw [if_pos h] at k
    exact rs_iconst d7 k
  · rw [if_neg h] at k
    exact rs_iconst d3 (rs_goto d4 h2 k)
theorem lw_count {b L : Nat} {xs : Nat → Int32} {t : Nat} {W : zWd} {T i : Int} (hL : L ≤ 3072) (h0 : 0 ≤ i) (h1 : i + 6 ≤ L) (ht : 2 ≤ t) (hT : T + 8000 ≤ 100000000) (hI : zIv W T) (k : ∀ (W' : zWd) (t' : Nat), t - 2 ≤ t' → zIv W' (T + 26) → RS b L xs t' W' 1937 (zLS i) []) : RS b L xs t W 314 (zLS i) [] := by
  obtain ⟨a, n, K, B, S, TL, Z, e, hc, hm, hp⟩ := hI
  have hw := hp.1.1
  have hg := hp.1.2
  refine rs_aload_n (k := 1) dL_law_314 rfl ?_
  refine rs_wj (b := b) 1 hL h0 (by decide) (by omega) rfl rfl dL_law_315 dL_law_316 dL_law_318 dL_law_319 dL_law_320 ?_
  refine rs_aload_n (k := 3) dL_law_321 rfl ?_
  refine rs_sta (M' := ML_count) (hh := hL_count) (d' := 9) (t' := 1) (n := 3) (As := [_, _, _]) (pc := 322) dL_law_322 gL_count ⟨by decide, by decide, by decide +kernel⟩ (by decide) (by omega) (Nat.le_of_ble_eq_true rfl) (Nat.le_of_ble_eq_true rfl) rfl (eL_count (Nat.le_refl _) (eX6_count hc.1 hw zXs_R (fun g0 g1 => ⟨_, rfl, ?_⟩) (fun g => ⟨rfl, ?_⟩)))
  · have hc1 := (hc).out (z := vCount a (zXs xs (i + 1)))
    have hm1 := (hm).out (z := vCount a (zXs xs (i + 1)))
    have hz : zup W 128 0 (vCount a (zXs xs (i + 1))) 128 0 = vCount a (zXs xs (i + 1)) := zup_s
    generalize zup W 128 0 (vCount a (zXs xs (i + 1))) = W2 at hc1 hm1 hz ⊢
    refine rs_istore (pc := 325) dL_law_325 (by decide) ?_
    refine rs_aload_n (k := 2) (pc := 327) dL_law_327 rfl ?_
    refine rs_wj (b := b) 1 hL h0 (by decide) (by omega) rfl rfl dL_law_328 dL_law_329 dL_law_331 dL_law_332 dL_law_333 ?_
    refine rs_inv0 (M' := MX7_count) (k := 116) (As := [_]) (pc := 334) dL_law_334 lL_122 kX7_count vX7_count zk_116 (by decide) rfl (by decide) (Nat.le_of_ble_eq_true rfl) (Nat.le_of_ble_eq_true rfl) rfl (eX7_count hm1.1 hw zXs_R (fun _ W3 o3 t3 => ?_) (fun g => absurd ⟨g0, g1⟩ g))
    exact rs_tail (m := 337) (k := 0) dL_law_337 dL_law_339 dL_law_340 dL_law_343 dL_law_345 dL_law_350 dL_law_352 dL_law_355 dL_law_356 dL_law_357 dL_law_358 dL_law_360 dL_law_361 dL_law_362 dL_law_367 (by decide) t3 (by unfold zR; omega) (fun h9 => by rw [o3.o]; exact hz) (k _ _ (by omega) (⟨a, n, K, B, S, TL, Z, e, hc1.up o3.c, hm1.Q o3, hp.mono (by omega) (by omega)⟩))
  · have hc1 := hc
    have hm1 := hm
    refine rs_istore (pc := 325) dL_law_325 (by decide) ?_
    refine rs_aload_n (k := 2) (pc := 327) dL_law_327 rfl ?_
    refine rs_wj (b := b) 1 hL h0 (by decide) (by omega) rfl rfl dL_law_328 dL_law_329 dL_law_331 dL_law_332 dL_law_333 ?_
    refine rs_inv0 (M' := MX7_count) (k := 116) (As := [_]) (pc := 334) dL_law_334 lL_122 kX7_count vX7_count zk_116 (by decide) rfl (by decide) (Nat.le_of_ble_eq_true rfl) (Nat.le_of_ble_eq_true rfl) rfl (eX7_count hm1.1 hw zXs_R (fun g9 => absurd g9 g) (fun _ W3 o3 t3 => ?_))
    exact rs_tail (m := 337) (k := 1) dL_law_337 dL_law_339 dL_law_340 dL_law_343 dL_law_345 dL_law_350 dL_law_352 dL_law_355 dL_law_356 dL_law_357 dL_law_358 dL_law_360 dL_law_361 dL_law_362 dL_law_367 (by decide) t3 (by unfold zR; omega) (fun h9 => absurd h9 (by decide)) (k _ _ (by omega) (⟨a, n, K, B, S, TL, Z, e, hc1.up o3.c, hm1.Q o3, hp.mono (by omega) (by omega)⟩))
theorem lw_player {b L : Nat} {xs : Nat → Int32} {t : Nat} {W : zWd} {T i : Int} (hL : L ≤ 3072) (h0 : 0 ≤ i) (h1 : i + 6 ≤ L) (ht : 2 ≤ t) (hT : T + 8000 ≤ 100000000) (hI : zIv W T) (k : ∀ (W' : zWd) (t' : Nat), t - 2 ≤ t' → zIv W' (T + 26) → RS b L xs t' W' 1937 (zLS i) []) : RS b L xs t W 370 (zLS i) [] := by
  obtain ⟨a, n, K, B, S, TL, Z, e, hc, hm, hp⟩ := hI
  have hw := hp.1.1
  have hg := hp.1.2
  refine rs_aload_n (k := 1) dL_law_370 rfl ?_
  refine rs_wj (b := b) 1 hL h0 (by decide) (by omega) rfl rfl dL_law_371 dL_law_372 dL_law_374 dL_law_375 dL_law_376 ?_
  refine rs_wj (b := b) 2 hL h0 (by decide) (by omega) rfl rfl dL_law_377 dL_law_378 dL_law_380 dL_law_381 dL_law_382 ?_
  refine rs_aload_n (k := 3) dL_law_383 rfl ?_
  refine rs_sta (M' := ML_player) (hh := hL_player) (d' := 9) (t' := 2) (n := 4) (As := [_, _, _, _]) (pc := 384) dL_law_384 gL_player ⟨by decide, by decide, by decide +kernel⟩ (by decide) (by omega) (Nat.le_of_ble_eq_true rfl) (Nat.le_of_ble_eq_true rfl) rfl (eL_player (Nat.le_refl _) (eX6_player hc.1 hw zXs_R zXs_R (fun g0 g1 g2 g3 => ⟨_, rfl, ?_⟩) (fun g => Or.inl ⟨rfl, ?_⟩) (fun g0 g1 g => Or.inr ⟨rfl, ?_⟩)))
  · have hc1 := (hc).out (z := vPl a (zXs xs (i + 1)) (zXs xs (i + 2)))
    have hm1 := (hm).out (z := vPl a (zXs xs (i + 1)) (zXs xs (i + 2)))
    have hz : zup W 128 0 (vPl a (zXs xs (i + 1)) (zXs xs (i + 2))) 128 0 = vPl a (zXs xs (i + 1)) (zXs xs (i + 2)) := zup_s
    generalize zup W 128 0 (vPl a (zXs xs (i + 1)) (zXs xs (i + 2))) = W2 at hc1 hm1 hz ⊢
    refine rs_istore (pc := 387) dL_law_387 (by decide) ?_
    refine rs_aload_n (k := 2) (pc := 389) dL_law_389 rfl ?_
    refine rs_wj (b := b) 1 hL h0 (by decide) (by omega) rfl rfl dL_law_390 dL_law_391 dL_law_393 dL_law_394 dL_law_395 ?_
    refine rs_wj (b := b) 2 hL h0 (by decide) (by omega) rfl rfl dL_law_396 dL_law_397 dL_law_399 dL_law_400 dL_law_401 ?_
    refine rs_inv0 (M' := MX7_player) (k := 116) (As := [_, _]) (pc := 402) dL_law_402 lL_126 kX7_player vX7_player zk_116 (by decide) rfl (by decide) (Nat.le_of_ble_eq_true rfl) (Nat.le_of_ble_eq_true rfl) rfl (eX7_player hm1.1 hw zXs_R zXs_R (fun _ _ W3 o3 t3 => ?_) (fun g => absurd ⟨g0, g1⟩ g) (fun _ g => absurd ⟨g2, g3⟩ g))
    exact rs_tail (m := 405) (k := 0) dL_law_405 dL_law_407 dL_law_408 dL_law_411 dL_law_413 dL_law_418 dL_law_420 dL_law_423 dL_law_424 dL_law_425 dL_law_426 dL_law_428 dL_law_429 dL_law_430 dL_law_435 (by decide) t3 (by unfold zR; omega) (fun h9 => by rw [o3.o]; exact hz) (k _ _ (by omega) (⟨a, n, K, B, S, TL, Z, e, hc1.up o3.c, hm1.Q o3, hp.mono (by omega) (by omega)⟩))
  · have hc1 := hc
    have hm1 := hm
    refine rs_istore (pc := 387) dL_law_387 (by decide) ?_
    refine rs_aload_n (k := 2) (pc := 389) dL_law_389 rfl ?_
    refine rs_wj (b := b) 1 hL h0 (by decide) (by omega) rfl rfl dL_law_390 dL_law_391 dL_law_393 dL_law_394 dL_law_395 ?_
    refine rs_wj (b := b) 2 hL h0 (by decide) (by omega) rfl rfl dL_law_396 dL_law_397 dL_law_399 dL_law_400 dL_law_401 ?_
    refine rs_inv0 (M' := MX7_player) (k := 116) (As := [_, _]) (pc := 402) dL_law_402 lL_126 kX7_player vX7_player zk_116 (by decide) rfl (by decide) (Nat.le_of_ble_eq_true rfl) (Nat.le_of_ble_eq_true rfl) rfl (eX7_player hm1.1 hw zXs_R zXs_R (fun g9 => absurd g9 g) (fun _ W3 o3 t3 => ?_) (fun g9 => absurd g9 g))
    exact rs_tail (m := 405) (k := 1) dL_law_405 dL_law_407 dL_law_408 dL_law_411 dL_law_413 dL_law_418 dL_law_420 dL_law_423 dL_law_424 dL_law_425 dL_law_426 dL_law_428 dL_law_429 dL_law_430 dL_law_435 (by decide) t3 (by unfold zR; omega) (fun h9 => absurd h9 (by decide)) (k _ _ (by omega) (⟨a, n, K, B, S, TL, Z, e, hc1.up o3.c, hm1.Q o3, hp.mono (by omega) (by omega)⟩))
  · have hc1 := hc
    have hm1 := hm
    refine rs_istore (pc := 387) dL_law_387 (by decide) ?_
    refine rs_aload_n (k := 2) (pc := 389) dL_law_389 rfl ?_
    refine rs_wj (b := b) 1 hL h0 (by decide) (by omega) rfl rfl dL_law_390 dL_law_391 dL_law_393 dL_law_394 dL_law_395 ?_
    refine rs_wj (b := b) 2 hL h0 (by decide) (by omega) rfl rfl dL_law_396 dL_law_397 dL_law_399 dL_law_400 dL_law_401 ?_
    refine rs_inv0 (M' := MX7_player) (k := 116) (As := [_, _]) (pc := 402) dL_law_402 lL_126 kX7_player vX7_player zk_116 (by decide) rfl (by decide) (Nat.le_of_ble_eq_true rfl) (Nat.le_of_ble_eq_true rfl) rfl (eX7_player hm1.1 hw zXs_R zXs_R (fun _ g9 => absurd g9 g) (fun g9 => absurd ⟨g0, g1⟩ g9) (fun _ _ W3 o3 t3 => ?_))
    exact rs_tail (m := 405) (k := 2) dL_law_405 dL_law_407 dL_law_408 dL_law_411 dL_law_413 dL_law_418 dL_law_420 dL_law_423 dL_law_424 dL_law_425 dL_law_426 dL_law_428 dL_law_429 dL_law_430 dL_law_435 (by decide) t3 (by unfold zR; omega) (fun h9 => absurd h9 (by decide)) (k _ _ (by omega) (⟨a, n, K, B, S, TL, Z, e, hc1.up o3.c, hm1.Q o3, hp.mono (by omega) (by omega)⟩))
theorem lw_square {b L : Nat} {xs : Nat → Int32} {t : Nat} {W : zWd} {T i : Int} (hL : L ≤ 3072) (h0 : 0 ≤ i) (h1 : i + 6 ≤ L) (ht : 2 ≤ t) (hT : T + 8000 ≤ 100000000) (hI : zIv W T) (k : ∀ (W' : zWd) (t' : Nat), t - 2 ≤ t' → zIv W' (T + 26) → RS b L xs t' W' 1937 (zLS i) []) : RS b L xs t W 438 (zLS i) [] := by
  obtain ⟨a, n, K, B, S, TL, Z, e, hc, hm, hp⟩ := hI
  have hw := hp.1.1
  have hg := hp.1.2
  refine rs_aload_n (k := 1) dL_law_438 rfl ?_
  refine rs_wj (b := b) 1 hL h0 (by decide) (by omega) rfl rfl dL_law_439 dL_law_440 dL_law_442 dL_law_443 dL_law_444 ?_
  refine rs_wj (b := b) 2 hL h0 (by decide) (by omega) rfl rfl dL_law_445 dL_law_446 dL_law_448 dL_law_449 dL_law_450 ?_
  refine rs_aload_n (k := 3) dL_law_451 rfl ?_
  refine rs_sta (M' := ML_square) (hh := hL_square) (d' := 9) (t' := 2) (n := 4) (As := [_, _, _, _]) (pc := 452) dL_law_452 gL_square ⟨by decide, by decide, by decide +kernel⟩ (by decide) (by omega) (Nat.le_of_ble_eq_true rfl) (Nat.le_of_ble_eq_true rfl) rfl (eL_square (Nat.le_refl _) (eX6_square hc.1 hw zXs_R zXs_R (fun g0 g1 g2 g3 => ⟨_, rfl, ?_⟩) (fun g => Or.inl ⟨rfl, ?_⟩) (fun g0 g1 g => Or.inr ⟨rfl, ?_⟩)))
  · have hc1 := (hc).out (z := vSq a (zXs xs (i + 1)) (zXs xs (i + 2)))
    have hm1 := (hm).out (z := vSq a (zXs xs (i + 1)) (zXs xs (i + 2)))
    have hz : zup W 128 0 (vSq a (zXs xs (i + 1)) (zXs xs (i + 2))) 128 0 = vSq a (zXs xs (i + 1)) (zXs xs (i + 2)) := zup_s
    generalize zup W 128 0 (vSq a (zXs xs (i + 1)) (zXs xs (i + 2))) = W2 at hc1 hm1 hz ⊢
    refine rs_istore (pc := 455) dL_law_455 (by decide) ?_
    refine rs_aload_n (k := 2) (pc := 457) dL_law_457 rfl ?_
    refine rs_wj (b := b) 1 hL h0 (by decide) (by omega) rfl rfl dL_law_458 dL_law_459 dL_law_461 dL_law_462 dL_law_463 ?_
    refine rs_wj (b := b) 2 hL h0 (by decide) (by omega) rfl rfl dL_law_464 dL_law_465 dL_law_467 dL_law_468 dL_law_469 ?_
    refine rs_inv0 (M' := MX7_square) (k := 116) (As := [_, _]) (pc := 470) dL_law_470 lL_129 kX7_square vX7_square zk_116 (by decide) rfl (by decide) (Nat.le_of_ble_eq_true rfl) (Nat.le_of_ble_eq_true rfl) rfl (eX7_square hm1.1 hw zXs_R zXs_R (fun _ _ W3 o3 t3 => ?_) (fun g => absurd ⟨g0, g1⟩ g) (fun _ g => absurd ⟨g2, g3⟩ g))
    exact rs_tail (m := 473) (k := 0) dL_law_473 dL_law_475 dL_law_476 dL_law_479 dL_law_481 dL_law_486 dL_law_488 dL_law_491 dL_law_492 dL_law_493 dL_law_494 dL_law_496 dL_law_497 dL_law_498 dL_law_503 (by decide) t3 (by unfold zR; omega) (fun h9 => by rw [o3.o]; exact hz) (k _ _ (by omega) (⟨a, n, K, B, S, TL, Z, e, hc1.up o3.c, hm1.Q o3, hp.mono (by omega) (by omega)⟩))
  · have hc1 := hc
    have hm1 := hm
    refine rs_istore (pc := 455) dL_law_455 (by decide) ?_
    refine rs_aload_n (k := 2) (pc := 457) dL_law_457 rfl ?_
    refine rs_wj (b := b) 1 hL h0 (by decide) (by omega) rfl rfl dL_law_458 dL_law_459 dL_law_461 dL_law_462 dL_law_463 ?_
    refine rs_wj (b := b) 2 hL h0 (by decide) (by omega) rfl rfl dL_law_464 dL_law_465 dL_law_467 dL_law_468 dL_law_469 ?_
    refine rs_inv0 (M' := MX7_square) (k := 116) (As := [_, _]) (pc := 470) dL_law_470 lL_129 kX7_square vX7_square zk_116 (by decide) rfl (by decide) (Nat.le_of_ble_eq_true rfl) (Nat.le_of_ble_eq_true rfl) rfl (eX7_square hm1.1 hw zXs_R zXs_R (fun g9 => absurd g9 g) (fun _ W3 o3 t3 => ?_) (fun g9 => absurd g9 g))
    exact rs_tail (m := 473) (k := 1) dL_law_473 dL_law_475 dL_law_476 dL_law_479 dL_law_481 dL_law_486 dL_law_488 dL_law_491 dL_law_492 dL_law_493 dL_law_494 dL_law_496 dL_law_497 dL_law_498 dL_law_503 (by decide) t3 (by unfold zR; omega) (fun h9 => absurd h9 (by decide)) (k _ _ (by omega) (⟨a, n, K, B, S, TL, Z, e, hc1.up o3.c, hm1.Q o3, hp.mono (by omega) (by omega)⟩))
  · have hc1 := hc
    have hm1 := hm
    refine rs_istore (pc := 455) dL_law_455 (by decide) ?_
    refine rs_aload_n (k := 2) (pc := 457) dL_law_457 rfl ?_
    refine rs_wj (b := b) 1 hL h0 (by decide) (by omega) rfl rfl dL_law_458 dL_law_459 dL_law_461 dL_law_462 dL_law_463 ?_
    refine rs_wj (b := b) 2 hL h0 (by decide) (by omega) rfl rfl dL_law_464 dL_law_465 dL_law_467 dL_law_468 dL_law_469 ?_
    refine rs_inv0 (M' := MX7_square) (k := 116) (As := [_, _]) (pc := 470) dL_law_470 lL_129 kX7_square vX7_square zk_116 (by decide) rfl (by decide) (Nat.le_of_ble_eq_true rfl) (Nat.le_of_ble_eq_true rfl) rfl (eX7_square hm1.1 hw zXs_R zXs_R (fun _ g9 => absurd g9 g) (fun g9 => absurd ⟨g0, g1⟩ g9) (fun _ _ W3 o3 t3 => ?_))
    exact rs_tail (m := 473) (k := 2) dL_law_473 dL_law_475 dL_law_476 dL_law_479 dL_law_481 dL_law_486 dL_law_488 dL_law_491 dL_law_492 dL_law_493 dL_law_494 dL_law_496 dL_law_497 dL_law_498 dL_law_503 (by decide) t3 (by unfold zR; omega) (fun h9 => absurd h9 (by decide)) (k _ _ (by omega) (⟨a, n, K, B, S, TL, Z, e, hc1.up o3.c, hm1.Q o3, hp.mono (by omega) (by omega)⟩))
theorem lw_row {b L : Nat} {xs : Nat → Int32} {t : Nat} {W : zWd} {T i : Int} (hL : L ≤ 3072) (h0 : 0 ≤ i) (h1 : i + 6 ≤ L) (ht : 2 ≤ t) (hT : T + 8000 ≤ 100000000) (hI : zIv W T) (k : ∀ (W' : zWd) (t' : Nat), t - 2 ≤ t' → zIv W' (T + 26) → RS b L xs t' W' 1937 (zLS i) []) : RS b L xs t W 506 (zLS i) [] := by
  obtain ⟨a, n, K, B, S, TL, Z, e, hc, hm, hp⟩ := hI
  have hw := hp.1.1
  have hg := hp.1.2
  refine rs_aload_n (k := 1) dL_law_506 rfl ?_
  refine rs_wj (b := b) 1 hL h0 (by decide) (by omega) rfl rfl dL_law_507 dL_law_508 dL_law_510 dL_law_511 dL_law_512 ?_
  refine rs_aload_n (k := 3) dL_law_513 rfl ?_
  refine rs_sta (M' := ML_row) (hh := hL_row) (d' := 9) (t' := 1) (n := 3) (As := [_, _, _]) (pc := 514) dL_law_514 gL_row ⟨by decide, by decide, by decide +kernel⟩ (by decide) (by omega) (Nat.le_of_ble_eq_true rfl) (Nat.le_of_ble_eq_true rfl) rfl (eL_row (Nat.le_refl _) (eX6_row hc.1 hw zXs_R (fun g0 g1 => ⟨_, rfl, ?_⟩) (fun g => ⟨rfl, ?_⟩)))
  · have hc1 := (hc).out (z := vRow a (zXs xs (i + 1)))
    have hm1 := (hm).out (z := vRow a (zXs xs (i + 1)))
    have hz : zup W 128 0 (vRow a (zXs xs (i + 1))) 128 0 = vRow a (zXs xs (i + 1)) := zup_s
    generalize zup W 128 0 (vRow a (zXs xs (i + 1))) = W2 at hc1 hm1 hz ⊢
    refine rs_istore (pc := 517) dL_law_517 (by decide) ?_
    refine rs_aload_n (k := 2) (pc := 519) dL_law_519 rfl ?_
    refine rs_wj (b := b) 1 hL h0 (by decide) (by omega) rfl rfl dL_law_520 dL_law_521 dL_law_523 dL_law_524 dL_law_525 ?_
    refine rs_inv0 (M' := MX7_row) (k := 116) (As := [_]) (pc := 526) dL_law_526 lL_132 kX7_row vX7_row zk_116 (by decide) rfl (by decide) (Nat.le_of_ble_eq_true rfl) (Nat.le_of_ble_eq_true rfl) rfl (eX7_row hm1.1 hw zXs_R (fun _ W3 o3 t3 => ?_) (fun g => absurd ⟨g0, g1⟩ g))
    exact rs_tail (m := 529) (k := 0) dL_law_529 dL_law_531 dL_law_532 dL_law_535 dL_law_537 dL_law_542 dL_law_544 dL_law_547 dL_law_548 dL_law_549 dL_law_550 dL_law_552 dL_law_553 dL_law_554 dL_law_559 (by decide) t3 (by unfold zR; omega) (fun h9 => by rw [o3.o]; exact hz) (k _ _ (by omega) (⟨a, n, K, B, S, TL, Z, e, hc1.up o3.c, hm1.Q o3, hp.mono (by omega) (by omega)⟩))
  · have hc1 := hc
    have hm1 := hm
    refine rs_istore (pc := 517) dL_law_517 (by decide) ?_
    refine rs_aload_n (k := 2) (pc := 519) dL_law_519 rfl ?_
    refine rs_wj (b := b) 1 hL h0 (by decide) (by omega) rfl rfl dL_law_520 dL_law_521 dL_law_523 dL_law_524 dL_law_525 ?_
    refine rs_inv0 (M' := MX7_row) (k := 116) (As := [_]) (pc := 526) dL_law_526 lL_132 kX7_row vX7_row zk_116 (by decide) rfl (by decide) (Nat.le_of_ble_eq_true rfl) (Nat.le_of_ble_eq_true rfl) rfl (eX7_row hm1.1 hw zXs_R (fun g9 => absurd g9 g) (fun _ W3 o3 t3 => ?_))
    exact rs_tail (m := 529) (k := 1) dL_law_529 dL_law_531 dL_law_532 dL_law_535 dL_law_537 dL_law_542 dL_law_544 dL_law_547 dL_law_548 dL_law_549 dL_law_550 dL_law_552 dL_law_553 dL_law_554 dL_law_559 (by decide) t3 (by unfold zR; omega) (fun h9 => absurd h9 (by decide)) (k _ _ (by omega) (⟨a, n, K, B, S, TL, Z, e, hc1.up o3.c, hm1.Q o3, hp.mono (by omega) (by omega)⟩))
theorem lw_footing {b L : Nat} {xs : Nat → Int32} {t : Nat} {W : zWd} {T i : Int} (hL : L ≤ 3072) (h0 : 0 ≤ i) (h1 : i + 6 ≤ L) (ht : 2 ≤ t) (hT : T + 8000 ≤ 100000000) (hI : zIv W T) (k : ∀ (W' : zWd) (t' : Nat), t - 2 ≤ t' → zIv W' (T + 26) → RS b L xs t' W' 1937 (zLS i) []) : RS b L xs t W 562 (zLS i) [] := by
  obtain ⟨a, n, K, B, S, TL, Z, e, hc, hm, hp⟩ := hI
  have hw := hp.1.1
  have hg := hp.1.2
  refine rs_aload_n (k := 1) dL_law_562 rfl ?_
  refine rs_wj (b := b) 1 hL h0 (by decide) (by omega) rfl rfl dL_law_563 dL_law_564 dL_law_566 dL_law_567 dL_law_568 ?_
  refine rs_wj (b := b) 2 hL h0 (by decide) (by omega) rfl rfl dL_law_569 dL_law_570 dL_law_572 dL_law_573 dL_law_574 ?_
  refine rs_aload_n (k := 3) dL_law_575 rfl ?_
  refine rs_sta (M' := ML_footing) (hh := hL_footing) (d' := 9) (t' := 2) (n := 4) (As := [_, _, _, _]) (pc := 576) dL_law_576 gL_footing ⟨by decide, by decide, by decide +kernel⟩ (by decide) (by omega) (Nat.le_of_ble_eq_true rfl) (Nat.le_of_ble_eq_true rfl) rfl (eL_footing (Nat.le_refl _) (eX6_footing hc.1 hw zXs_R zXs_R (fun g0 g1 g2 g3 => ⟨_, rfl, ?_⟩) (fun g => ⟨rfl, ?_⟩)))
  · have hc1 := (hc).out (z := vFt a (zXs xs (i + 1)) (zXs xs (i + 2)))
    have hm1 := (hm).out (z := vFt a (zXs xs (i + 1)) (zXs xs (i + 2)))
    have hz : zup W 128 0 (vFt a (zXs xs (i + 1)) (zXs xs (i + 2))) 128 0 = vFt a (zXs xs (i + 1)) (zXs xs (i + 2)) := zup_s
    generalize zup W 128 0 (vFt a (zXs xs (i + 1)) (zXs xs (i + 2))) = W2 at hc1 hm1 hz ⊢
    refine rs_istore (pc := 579) dL_law_579 (by decide) ?_
    refine rs_aload_n (k := 2) (pc := 581) dL_law_581 rfl ?_
    refine rs_wj (b := b) 1 hL h0 (by decide) (by omega) rfl rfl dL_law_582 dL_law_583 dL_law_585 dL_law_586 dL_law_587 ?_
    refine rs_wj (b := b) 2 hL h0 (by decide) (by omega) rfl rfl dL_law_588 dL_law_589 dL_law_591 dL_law_592 dL_law_593 ?_
    refine rs_inv0 (M' := MX7_footing) (k := 116) (As := [_, _]) (pc := 594) dL_law_594 lL_135 kX7_footing vX7_footing zk_116 (by decide) rfl (by decide) (Nat.le_of_ble_eq_true rfl) (Nat.le_of_ble_eq_true rfl) rfl (eX7_footing hm1.1 hw zXs_R zXs_R (fun _ W3 o3 t3 => ?_) (fun g => absurd ⟨⟨g0, g1⟩, g2, g3⟩ g))
    exact rs_tail (m := 597) (k := 0) dL_law_597 dL_law_599 dL_law_600 dL_law_603 dL_law_605 dL_law_610 dL_law_612 dL_law_615 dL_law_616 dL_law_617 dL_law_618 dL_law_620 dL_law_621 dL_law_622 dL_law_627 (by decide) t3 (by unfold zR; omega) (fun h9 => by rw [o3.o]; exact hz) (k _ _ (by omega) (⟨a, n, K, B, S, TL, Z, e, hc1.up o3.c, hm1.Q o3, hp.mono (by omega) (by omega)⟩))
  · have hc1 := hc
    have hm1 := hm
    refine rs_istore (pc := 579) dL_law_579 (by decide) ?_
    refine rs_aload_n (k := 2) (pc := 581) dL_law_581 rfl ?_
    refine rs_wj (b := b) 1 hL h0 (by decide) (by omega) rfl rfl dL_law_582 dL_law_583 dL_law_585 dL_law_586 dL_law_587 ?_
    refine rs_wj (b := b) 2 hL h0 (by decide) (by omega) rfl rfl dL_law_588 dL_law_589 dL_law_591 dL_law_592 dL_law_593 ?_
    refine rs_inv0 (M' := MX7_footing) (k := 116) (As := [_, _]) (pc := 594) dL_law_594 lL_135 kX7_footing vX7_footing zk_116 (by decide) rfl (by decide) (Nat.le_of_ble_eq_true rfl) (Nat.le_of_ble_eq_true rfl) rfl (eX7_footing hm1.1 hw zXs_R zXs_R (fun g9 => absurd g9 g) (fun _ W3 o3 t3 => ?_))
    exact rs_tail (m := 597) (k := 1) dL_law_597 dL_law_599 dL_law_600 dL_law_603 dL_law_605 dL_law_610 dL_law_612 dL_law_615 dL_law_616 dL_law_617 dL_law_618 dL_law_620 dL_law_621 dL_law_622 dL_law_627 (by decide) t3 (by unfold zR; omega) (fun h9 => absurd h9 (by decide)) (k _ _ (by omega) (⟨a, n, K, B, S, TL, Z, e, hc1.up o3.c, hm1.Q o3, hp.mono (by omega) (by omega)⟩))
theorem lw_throwFault {b L : Nat} {xs : Nat → Int32} {t : Nat} {W : zWd} {T i : Int} (hL : L ≤ 3072) (h0 : 0 ≤ i) (h1 : i + 6 ≤ L) (ht : 2 ≤ t) (hT : T + 8000 ≤ 100000000) (hI : zIv W T) (k : ∀ (W' : zWd) (t' : Nat), t - 2 ≤ t' → zIv W' (T + 26) → RS b L xs t' W' 1937 (zLS i) []) : RS b L xs t W 630 (zLS i) [] := by
  obtain ⟨a, n, K, B, S, TL, Z, e, hc, hm, hp⟩ := hI
  have hw := hp.1.1
  have hg := hp.1.2
  refine rs_aload_n (k := 1) dL_law_630 rfl ?_
  refine rs_wj (b := b) 1 hL h0 (by decide) (by omega) rfl rfl dL_law_631 dL_law_632 dL_law_634 dL_law_635 dL_law_636 ?_
  refine rs_wj (b := b) 2 hL h0 (by decide) (by omega) rfl rfl dL_law_637 dL_law_638 dL_law_640 dL_law_641 dL_law_642 ?_
  refine rs_wj (b := b) 3 hL h0 (by decide) (by omega) rfl rfl dL_law_643 dL_law_644 dL_law_646 dL_law_647 dL_law_648 ?_
  refine rs_aload_n (k := 3) dL_law_649 rfl ?_
  refine rs_sta (M' := ML_throwFault) (hh := hL_throwFault) (d' := 9) (t' := 2) (n := 5) (As := [_, _, _, _, _]) (pc := 650) dL_law_650 gL_throwFault ⟨by decide, by decide, by decide +kernel⟩ (by decide) (by omega) (Nat.le_of_ble_eq_true rfl) (Nat.le_of_ble_eq_true rfl) rfl (eL_throwFault (Nat.le_refl _) (eX6_throwFault hc.1 hw zXs_R zXs_R zXs_R (fun g0 g1 g2 => ⟨_, rfl, ?_⟩) (fun g => Or.inl ⟨rfl, ?_⟩) (fun g0 g1 g => Or.inr ⟨rfl, ?_⟩)))
  · have hc1 := (hc).out (z := aFault a (zXs xs (i + 1)) (zXs xs (i + 2)) (zXs xs (i + 3)))
    have hm1 := (hm).out (z := aFault a (zXs xs (i + 1)) (zXs xs (i + 2)) (zXs xs (i + 3)))
    have hz : zup W 128 0 (aFault a (zXs xs (i + 1)) (zXs xs (i + 2)) (zXs xs (i + 3))) 128 0 = aFault a (zXs xs (i + 1)) (zXs xs (i + 2)) (zXs xs (i + 3)) := zup_s
    generalize zup W 128 0 (aFault a (zXs xs (i + 1)) (zXs xs (i + 2)) (zXs xs (i + 3))) = W2 at hc1 hm1 hz ⊢
    refine rs_istore (pc := 653) dL_law_653 (by decide) ?_
    refine rs_aload_n (k := 2) (pc := 655) dL_law_655 rfl ?_
    refine rs_wj (b := b) 1 hL h0 (by decide) (by omega) rfl rfl dL_law_656 dL_law_657 dL_law_659 dL_law_660 dL_law_661 ?_
    refine rs_wj (b := b) 2 hL h0 (by decide) (by omega) rfl rfl dL_law_662 dL_law_663 dL_law_665 dL_law_666 dL_law_667 ?_
    refine rs_wj (b := b) 3 hL h0 (by decide) (by omega) rfl rfl dL_law_668 dL_law_669 dL_law_671 dL_law_672 dL_law_673 ?_
    refine rs_inv0 (M' := MX7_throwFault) (k := 116) (As := [_, _, _]) (pc := 674) dL_law_674 lL_139 kX7_throwFault vX7_throwFault zk_116 (by decide) rfl (by decide) (Nat.le_of_ble_eq_true rfl) (Nat.le_of_ble_eq_true rfl) rfl (eX7_throwFault hm1.1 hw zXs_R zXs_R zXs_R (fun _ _ W3 o3 t3 => ?_) (fun g => absurd ⟨g0, g1⟩ g) (fun _ g => absurd g2 g))
    exact rs_tail (m := 677) (k := 0) dL_law_677 dL_law_679 dL_law_680 dL_law_683 dL_law_685 dL_law_690 dL_law_692 dL_law_695 dL_law_696 dL_law_697 dL_law_698 dL_law_700 dL_law_701 dL_law_702 dL_law_707 (by decide) t3 (by unfold zR; omega) (fun h9 => by rw [o3.o]; exact hz) (k _ _ (by omega) (⟨a, n, K, B, S, TL, Z, e, hc1.up o3.c, hm1.Q o3, hp.mono (by omega) (by omega)⟩))
  · have hc1 := hc
    have hm1 := hm
    refine rs_istore (pc := 653) dL_law_653 (by decide) ?_
    refine rs_aload_n (k := 2) (pc := 655) dL_law_655 rfl ?_
    refine rs_wj (b := b) 1 hL h0 (by decide) (by omega) rfl rfl dL_law_656 dL_law_657 dL_law_659 dL_law_660 dL_law_661 ?_
    refine rs_wj (b := b) 2 hL h0 (by decide) (by omega) rfl rfl dL_law_662 dL_law_663 dL_law_665 dL_law_666 dL_law_667 ?_
    refine rs_wj (b := b) 3 hL h0 (by decide) (by omega) rfl rfl dL_law_668 dL_law_669 dL_law_671 dL_law_672 dL_law_673 ?_
    refine rs_inv0 (M' := MX7_throwFault) (k := 116) (As := [_, _, _]) (pc := 674) dL_law_674 lL_139 kX7_throwFault vX7_throwFault zk_116 (by decide) rfl (by decide) (Nat.le_of_ble_eq_true rfl) (Nat.le_of_ble_eq_true rfl) rfl (eX7_throwFault hm1.1 hw zXs_R zXs_R zXs_R (fun g9 => absurd g9 g) (fun _ W3 o3 t3 => ?_) (fun g9 => absurd g9 g))
    exact rs_tail (m := 677) (k := 1) dL_law_677 dL_law_679 dL_law_680 dL_law_683 dL_law_685 dL_law_690 dL_law_692 dL_law_695 dL_law_696 dL_law_697 dL_law_698 dL_law_700 dL_law_701 dL_law_702 dL_law_707 (by decide) t3 (by unfold zR; omega) (fun h9 => absurd h9 (by decide)) (k _ _ (by omega) (⟨a, n, K, B, S, TL, Z, e, hc1.up o3.c, hm1.Q o3, hp.mono (by omega) (by omega)⟩))
  · have hc1 := hc
    have hm1 := hm
    refine rs_istore (pc := 653) dL_law_653 (by decide) ?_
    refine rs_aload_n (k := 2) (pc := 655) dL_law_655 rfl ?_
    refine rs_wj (b := b) 1 hL h0 (by decide) (by omega) rfl rfl dL_law_656 dL_law_657 dL_law_659 dL_law_660 dL_law_661 ?_
    refine rs_wj (b := b) 2 hL h0 (by decide) (by omega) rfl rfl dL_law_662 dL_law_663 dL_law_665 dL_law_666 dL_law_667 ?_
    refine rs_wj (b := b) 3 hL h0 (by decide) (by omega) rfl rfl dL_law_668 dL_law_669 dL_law_671 dL_law_672 dL_law_673 ?_
    refine rs_inv0 (M' := MX7_throwFault) (k := 116) (As := [_, _, _]) (pc := 674) dL_law_674 lL_139 kX7_throwFault vX7_throwFault zk_116 (by decide) rfl (by decide) (Nat.le_of_ble_eq_true rfl) (Nat.le_of_ble_eq_true rfl) rfl (eX7_throwFault hm1.1 hw zXs_R zXs_R zXs_R (fun _ g9 => absurd g9 g) (fun g9 => absurd ⟨g0, g1⟩ g9) (fun _ _ W3 o3 t3 => ?_))
    exact rs_tail (m := 677) (k := 2) dL_law_677 dL_law_679 dL_law_680 dL_law_683 dL_law_685 dL_law_690 dL_law_692 dL_law_695 dL_law_696 dL_law_697 dL_law_698 dL_law_700 dL_law_701 dL_law_702 dL_law_707 (by decide) t3 (by unfold zR; omega) (fun h9 => absurd h9 (by decide)) (k _ _ (by omega) (⟨a, n, K, B, S, TL, Z, e, hc1.up o3.c, hm1.Q o3, hp.mono (by omega) (by omega)⟩))
theorem lw_bestThrow {b L : Nat} {xs : Nat → Int32} {t : Nat} {W : zWd} {T i : Int} (hL : L ≤ 3072) (h0 : 0 ≤ i) (h1 : i + 6 ≤ L) (ht : 2 ≤ t) (hT : T + 8000 ≤ 100000000) (hI : zIv W T) (k : ∀ (W' : zWd) (t' : Nat), t - 2 ≤ t' → zIv W' (T + 26) → RS b L xs t' W' 1937 (zLS i) []) : RS b L xs t W 710 (zLS i) [] := by
  obtain ⟨a, n, K, B, S, TL, Z, e, hc, hm, hp⟩ := hI
  have hw := hp.1.1
  have hg := hp.1.2
  refine rs_aload_n (k := 1) dL_law_710 rfl ?_
  refine rs_wj (b := b) 1 hL h0 (by decide) (by omega) rfl rfl dL_law_711 dL_law_712 dL_law_714 dL_law_715 dL_law_716 ?_
  refine rs_aload_n (k := 3) dL_law_717 rfl ?_
  refine rs_sta (M' := ML_bestThrow) (hh := hL_bestThrow) (d' := 9) (t' := 1) (n := 3) (As := [_, _, _]) (pc := 718) dL_law_718 gL_bestThrow ⟨by decide, by decide, by decide +kernel⟩ (by decide) (by omega) (Nat.le_of_ble_eq_true rfl) (Nat.le_of_ble_eq_true rfl) rfl (eL_bestThrow (Nat.le_refl _) (eX6_bestThrow hc.1 hw zXs_R (fun g0 g1 => ⟨_, rfl, ?_⟩) (fun g => ⟨rfl, ?_⟩)))
  · have hc1 := (hc).out (z := vBest a (zXs xs (i + 1)))
    have hm1 := (hm).out (z := vBest a (zXs xs (i + 1)))
    have hz : zup W 128 0 (vBest a (zXs xs (i + 1))) 128 0 = vBest a (zXs xs (i + 1)) := zup_s
    generalize zup W 128 0 (vBest a (zXs xs (i + 1))) = W2 at hc1 hm1 hz ⊢
    refine rs_istore (pc := 721) dL_law_721 (by decide) ?_
    refine rs_aload_n (k := 2) (pc := 723) dL_law_723 rfl ?_
    refine rs_wj (b := b) 1 hL h0 (by decide) (by omega) rfl rfl dL_law_724 dL_law_725 dL_law_727 dL_law_728 dL_law_729 ?_
    refine rs_inv0 (M' := MX7_bestThrow) (k := 116) (As := [_]) (pc := 730) dL_law_730 lL_142 kX7_bestThrow vX7_bestThrow zk_116 (by decide) rfl (by decide) (Nat.le_of_ble_eq_true rfl) (Nat.le_of_ble_eq_true rfl) rfl (eX7_bestThrow hm1.1 hw zXs_R (fun _ W3 o3 t3 => ?_) (fun g => absurd ⟨g0, g1⟩ g))
    exact rs_tail (m := 733) (k := 0) dL_law_733 dL_law_735 dL_law_736 dL_law_739 dL_law_741 dL_law_746 dL_law_748 dL_law_751 dL_law_752 dL_law_753 dL_law_754 dL_law_756 dL_law_757 dL_law_758 dL_law_763 (by decide) t3 (by unfold zR; omega) (fun h9 => by rw [o3.o]; exact hz) (k _ _ (by omega) (⟨a, n, K, B, S, TL, Z, e, hc1.up o3.c, hm1.Q o3, hp.mono (by omega) (by omega)⟩))
  · have hc1 := hc
    have hm1 := hm
    refine rs_istore (pc := 721) dL_law_721 (by decide) ?_
    refine rs_aload_n (k := 2) (pc := 723) dL_law_723 rfl ?_
    refine rs_wj (b := b) 1 hL h0 (by decide) (by omega) rfl rfl dL_law_724 dL_law_725 dL_law_727 dL_law_728 dL_law_729 ?_
    refine rs_inv0 (M' := MX7_bestThrow) (k := 116) (As := [_]) (pc := 730) dL_law_730 lL_142 kX7_bestThrow vX7_bestThrow zk_116 (by decide) rfl (by decide) (Nat.le_of_ble_eq_true rfl) (Nat.le_of_ble_eq_true rfl) rfl (eX7_bestThrow hm1.1 hw zXs_R (fun g9 => absurd g9 g) (fun _ W3 o3 t3 => ?_))
    exact rs_tail (m := 733) (k := 1) dL_law_733 dL_law_735 dL_law_736 dL_law_739 dL_law_741 dL_law_746 dL_law_748 dL_law_751 dL_law_752 dL_law_753 dL_law_754 dL_law_756 dL_law_757 dL_law_758 dL_law_763 (by decide) t3 (by unfold zR; omega) (fun h9 => absurd h9 (by decide)) (k _ _ (by omega) (⟨a, n, K, B, S, TL, Z, e, hc1.up o3.c, hm1.Q o3, hp.mono (by omega) (by omega)⟩))
theorem lw_hopFault {b L : Nat} {xs : Nat → Int32} {t : Nat} {W : zWd} {T i : Int} (hL : L ≤ 3072) (h0 : 0 ≤ i) (h1 : i + 6 ≤ L) (ht : 2 ≤ t) (hT : T + 8000 ≤ 100000000) (hI : zIv W T) (k : ∀ (W' : zWd) (t' : Nat), t - 2 ≤ t' → zIv W' (T + 26) → RS b L xs t' W' 1937 (zLS i) []) : RS b L xs t W 766 (zLS i) [] := by
  obtain ⟨a, n, K, B, S, TL, Z, e, hc, hm, hp⟩ := hI
  have hw := hp.1.1
  have hg := hp.1.2
  refine rs_aload_n (k := 1) dL_law_766 rfl ?_
  refine rs_wj (b := b) 1 hL h0 (by decide) (by omega) rfl rfl dL_law_767 dL_law_768 dL_law_770 dL_law_771 dL_law_772 ?_
  refine rs_aload_n (k := 3) dL_law_773 rfl ?_
  refine rs_sta (M' := ML_hopFault) (hh := hL_hopFault) (d' := 9) (t' := 1) (n := 3) (As := [_, _, _]) (pc := 774) dL_law_774 gL_hopFault ⟨by decide, by decide, by decide +kernel⟩ (by decide) (by omega) (Nat.le_of_ble_eq_true rfl) (Nat.le_of_ble_eq_true rfl) rfl (eL_hopFault (Nat.le_refl _) (eX6_hopFault hc.1 hw hc.2.1 zXs_R (fun g0 g1 W1 o1 gg => ⟨_, rfl, ?_⟩) (fun g => ⟨rfl, ?_⟩)))
  · have hc1 := (hc.g o1 gg).out (z := aHopF a (zXs xs (i + 1)))
    have hm1 := (hm.up o1.m).out (z := aHopF a (zXs xs (i + 1)))
    have hz : zup W1 128 0 (aHopF a (zXs xs (i + 1))) 128 0 = aHopF a (zXs xs (i + 1)) := zup_s
    generalize zup W1 128 0 (aHopF a (zXs xs (i + 1))) = W2 at hc1 hm1 hz ⊢
    refine rs_istore (pc := 777) dL_law_777 (by decide) ?_
    refine rs_aload_n (k := 2) (pc := 779) dL_law_779 rfl ?_
    refine rs_wj (b := b) 1 hL h0 (by decide) (by omega) rfl rfl dL_law_780 dL_law_781 dL_law_783 dL_law_784 dL_law_785 ?_
    refine rs_inv0 (M' := MX7_hopFault) (k := 116) (As := [_]) (pc := 786) dL_law_786 lL_145 kX7_hopFault vX7_hopFault zk_116 (by decide) rfl (by decide) (Nat.le_of_ble_eq_true rfl) (Nat.le_of_ble_eq_true rfl) rfl (eX7_hopFault hm1.1 hw zXs_R (fun _ W3 o3 t3 => ?_) (fun g => absurd ⟨g0, g1⟩ g))
    exact rs_tail (m := 789) (k := 0) dL_law_789 dL_law_791 dL_law_792 dL_law_795 dL_law_797 dL_law_802 dL_law_804 dL_law_807 dL_law_808 dL_law_809 dL_law_810 dL_law_812 dL_law_813 dL_law_814 dL_law_819 (by decide) t3 (by unfold zR; omega) (fun h9 => by rw [o3.o]; exact hz) (k _ _ (by omega) (⟨a, n, K, B, S, TL, Z, e, hc1.up o3.c, hm1.Q o3, hp.mono (by omega) (by omega)⟩))
  · have hc1 := hc
    have hm1 := hm
    refine rs_istore (pc := 777) dL_law_777 (by decide) ?_
    refine rs_aload_n (k := 2) (pc := 779) dL_law_779 rfl ?_
    refine rs_wj (b := b) 1 hL h0 (by decide) (by omega) rfl rfl dL_law_780 dL_law_781 dL_law_783 dL_law_784 dL_law_785 ?_
    refine rs_inv0 (M' := MX7_hopFault) (k := 116) (As := [_]) (pc := 786) dL_law_786 lL_145 kX7_hopFault vX7_hopFault zk_116 (by decide) rfl (by decide) (Nat.le_of_ble_eq_true rfl) (Nat.le_of_ble_eq_true rfl) rfl (eX7_hopFault hm1.1 hw zXs_R (fun g9 => absurd g9 g) (fun _ W3 o3 t3 => ?_))
    exact rs_tail (m := 789) (k := 1) dL_law_789 dL_law_791 dL_law_792 dL_law_795 dL_law_797 dL_law_802 dL_law_804 dL_law_807 dL_law_808 dL_law_809 dL_law_810 dL_law_812 dL_law_813 dL_law_814 dL_law_819 (by decide) t3 (by unfold zR; omega) (fun h9 => absurd h9 (by decide)) (k _ _ (by omega) (⟨a, n, K, B, S, TL, Z, e, hc1.up o3.c, hm1.Q o3, hp.mono (by omega) (by omega)⟩))
theorem lw_leastReach {b L : Nat} {xs : Nat → Int32} {t : Nat} {W : zWd} {T i : Int} (hL : L ≤ 3072) (h0 : 0 ≤ i) (h1 : i + 6 ≤ L) (ht : 2 ≤ t) (hT : T + 8000 ≤ 100000000) (hI : zIv W T) (k : ∀ (W' : zWd) (t' : Nat), t - 2 ≤ t' → zIv W' (T + 26) → RS b L xs t' W' 1937 (zLS i) []) : RS b L xs t W 1002 (zLS i) [] := by
  obtain ⟨a, n, K, B, S, TL, Z, e, hc, hm, hp⟩ := hI
  have hw := hp.1.1
  have hg := hp.1.2
  refine rs_aload_n (k := 1) dL_law_1002 rfl ?_
  refine rs_wj (b := b) 1 hL h0 (by decide) (by omega) rfl rfl dL_law_1003 dL_law_1004 dL_law_1006 dL_law_1007 dL_law_1008 ?_
  refine rs_aload_n (k := 3) dL_law_1009 rfl ?_
  refine rs_sta (M' := ML_leastReach) (hh := hL_leastReach) (d' := 9) (t' := 1) (n := 3) (As := [_, _, _]) (pc := 1010) dL_law_1010 gL_leastReach ⟨by decide, by decide, by decide +kernel⟩ (by decide) (by omega) (Nat.le_of_ble_eq_true rfl) (Nat.le_of_ble_eq_true rfl) rfl (eL_leastReach (Nat.le_refl _) (eX6_leastReach hc.1 hw hc.2.1 zXs_R (fun g0 g1 W1 o1 gg => ⟨_, rfl, ?_⟩) (fun g => ⟨rfl, ?_⟩)))
  · have hc1 := (hc.g o1 gg).out (z := aLr a (zXs xs (i + 1)) 4 1)
    have hm1 := (hm.up o1.m).out (z := aLr a (zXs xs (i + 1)) 4 1)
    have hz : zup W1 128 0 (aLr a (zXs xs (i + 1)) 4 1) 128 0 = aLr a (zXs xs (i + 1)) 4 1 := zup_s
    generalize zup W1 128 0 (aLr a (zXs xs (i + 1)) 4 1) = W2 at hc1 hm1 hz ⊢
    refine rs_istore (pc := 1013) dL_law_1013 (by decide) ?_
    refine rs_aload_n (k := 2) (pc := 1015) dL_law_1015 rfl ?_
    refine rs_wj (b := b) 1 hL h0 (by decide) (by omega) rfl rfl dL_law_1016 dL_law_1017 dL_law_1019 dL_law_1020 dL_law_1021 ?_
    refine rs_inv0 (M' := MX7_leastReach) (k := 116) (As := [_]) (pc := 1022) dL_law_1022 lL_156 kX7_leastReach vX7_leastReach zk_116 (by decide) rfl (by decide) (Nat.le_of_ble_eq_true rfl) (Nat.le_of_ble_eq_true rfl) rfl (eX7_leastReach hm1.1 hw zXs_R (fun _ W3 o3 t3 => ?_) (fun g => absurd ⟨g0, g1⟩ g))
    exact rs_tail (m := 1025) (k := 0) dL_law_1025 dL_law_1027 dL_law_1028 dL_law_1031 dL_law_1033 dL_law_1038 dL_law_1040 dL_law_1043 dL_law_1044 dL_law_1045 dL_law_1046 dL_law_1048 dL_law_1049 dL_law_1050 dL_law_1055 (by decide) t3 (by unfold zR; omega) (fun h9 => by rw [o3.o]; exact hz) (k _ _ (by omega) (⟨a, n, K, B, S, TL, Z, e, hc1.up o3.c, hm1.Q o3, hp.mono (by omega) (by omega)⟩))
  · have hc1 := hc
    have hm1 := hm
    refine rs_istore (pc := 1013) dL_law_1013 (by decide) ?_
    refine rs_aload_n (k := 2) (pc := 1015) dL_law_1015 rfl ?_
    refine rs_wj (b := b) 1 hL h0 (by decide) (by omega) rfl rfl dL_law_1016 dL_law_1017 dL_law_1019 dL_law_1020 dL_law_1021 ?_
    refine rs_inv0 (M' := MX7_leastReach) (k := 116) (As := [_]) (pc := 1022) dL_law_1022 lL_156 kX7_leastReach vX7_leastReach zk_116 (by decide) rfl (by decide) (Nat.le_of_ble_eq_true rfl) (Nat.le_of_ble_eq_true rfl) rfl (eX7_leastReach hm1.1 hw zXs_R (fun g9 => absurd g9 g) (fun _ W3 o3 t3 => ?_))
    exact rs_tail (m := 1025) (k := 1) dL_law_1025 dL_law_1027 dL_law_1028 dL_law_1031 dL_law_1033 dL_law_1038 dL_law_1040 dL_law_1043 dL_law_1044 dL_law_1045 dL_law_1046 dL_law_1048 dL_law_1049 dL_law_1050 dL_law_1055 (by decide) t3 (by unfold zR; omega) (fun h9 => absurd h9 (by decide)) (k _ _ (by omega) (⟨a, n, K, B, S, TL, Z, e, hc1.up o3.c, hm1.Q o3, hp.mono (by omega) (by omega)⟩))
theorem lw_playable {b L : Nat} {xs : Nat → Int32} {t : Nat} {W : zWd} {T i : Int} (hL : L ≤ 3072) (h0 : 0 ≤ i) (h1 : i + 6 ≤ L) (ht : 2 ≤ t) (hT : T + 8000 ≤ 100000000) (hI : zIv W T) (k : ∀ (W' : zWd) (t' : Nat), t - 2 ≤ t' → zIv W' (T + 26) → RS b L xs t' W' 1937 (zLS i) []) : RS b L xs t W 1058 (zLS i) [] := by
  obtain ⟨a, n, K, B, S, TL, Z, e, hc, hm, hp⟩ := hI
  have hw := hp.1.1
  have hg := hp.1.2
  refine rs_aload_n (k := 1) dL_law_1058 rfl ?_
  refine rs_wj (b := b) 1 hL h0 (by decide) (by omega) rfl rfl dL_law_1059 dL_law_1060 dL_law_1062 dL_law_1063 dL_law_1064 ?_
  refine rs_aload_n (k := 3) dL_law_1065 rfl ?_
  refine rs_sta (M' := ML_playable) (hh := hL_playable) (d' := 9) (t' := 1) (n := 3) (As := [_, _, _]) (pc := 1066) dL_law_1066 gL_playable ⟨by decide, by decide, by decide +kernel⟩ (by decide) (by omega) (Nat.le_of_ble_eq_true rfl) (Nat.le_of_ble_eq_true rfl) rfl (eL_playable (Nat.le_refl _) (eX6_playable hc.1 hw hc.2.1 zXs_R (fun g0 g1 W1 o1 gg => ⟨_, rfl, ?_⟩) (fun g => ⟨rfl, ?_⟩)))
  · have hc1 := (hc.g o1 gg).out (z := aPlay a (zXs xs (i + 1)))
    have hm1 := (hm.up o1.m).out (z := aPlay a (zXs xs (i + 1)))
    have hz : zup W1 128 0 (aPlay a (zXs xs (i + 1))) 128 0 = aPlay a (zXs xs (i + 1)) := zup_s
    generalize zup W1 128 0 (aPlay a (zXs xs (i + 1))) = W2 at hc1 hm1 hz ⊢
    refine rs_istore (pc := 1069) dL_law_1069 (by decide) ?_
    refine rs_aload_n (k := 2) (pc := 1071) dL_law_1071 rfl ?_
    refine rs_wj (b := b) 1 hL h0 (by decide) (by omega) rfl rfl dL_law_1072 dL_law_1073 dL_law_1075 dL_law_1076 dL_law_1077 ?_
    refine rs_inv0 (M' := MX7_playable) (k := 116) (As := [_]) (pc := 1078) dL_law_1078 lL_159 kX7_playable vX7_playable zk_116 (by decide) rfl (by decide) (Nat.le_of_ble_eq_true rfl) (Nat.le_of_ble_eq_true rfl) rfl (eX7_playable hm1.1 hw zXs_R (fun _ W3 o3 t3 => ?_) (fun g => absurd ⟨g0, g1⟩ g))
    exact rs_tail (m := 1081) (k := 0) dL_law_1081 dL_law_1083 dL_law_1084 dL_law_1087 dL_law_1089 dL_law_1094 dL_law_1096 dL_law_1099 dL_law_1100 dL_law_1101 dL_law_1102 dL_law_1104 dL_law_1105 dL_law_1106 dL_law_1111 (by decide) t3 (by unfold zR; omega) (fun h9 => by rw [o3.o]; exact hz) (k _ _ (by omega) (⟨a, n, K, B, S, TL, Z, e, hc1.up o3.c, hm1.Q o3, hp.mono (by omega) (by omega)⟩))
  · have hc1 := hc
    have hm1 := hm
    refine rs_istore (pc := 1069) dL_law_1069 (by decide) ?_
    refine rs_aload_n (k := 2) (pc := 1071) dL_law_1071 rfl ?_
    refine rs_wj (b := b) 1 hL h0 (by decide) (by omega) rfl rfl dL_law_1072 dL_law_1073 dL_law_1075 dL_law_1076 dL_law_1077 ?_
    refine rs_inv0 (M' := MX7_playable) (k := 116) (As := [_]) (pc := 1078) dL_law_1078 lL_159 kX7_playable vX7_playable zk_116 (by decide) rfl (by decide) (Nat.le_of_ble_eq_true rfl) (Nat.le_of_ble_eq_true rfl) rfl (eX7_playable hm1.1 hw zXs_R (fun g9 => absurd g9 g) (fun _ W3 o3 t3 => ?_))
    exact rs_tail (m := 1081) (k := 1) dL_law_1081 dL_law_1083 dL_law_1084 dL_law_1087 dL_law_1089 dL_law_1094 dL_law_1096 dL_law_1099 dL_law_1100 dL_law_1101 dL_law_1102 dL_law_1104 dL_law_1105 dL_law_1106 dL_law_1111 (by decide) t3 (by unfold zR; omega) (fun h9 => absurd h9 (by decide)) (k _ _ (by omega) (⟨a, n, K, B, S, TL, Z, e, hc1.up o3.c, hm1.Q o3, hp.mono (by omega) (by omega)⟩))
theorem lw_cost {b L : Nat} {xs : Nat → Int32} {t : Nat} {W : zWd} {T i : Int} (hL : L ≤ 3072) (h0 : 0 ≤ i) (h1 : i + 6 ≤ L) (ht : 2 ≤ t) (hT : T + 8000 ≤ 100000000) (hI : zIv W T) (k : ∀ (W' : zWd) (t' : Nat), t - 2 ≤ t' → zIv W' (T + 26) → RS b L xs t' W' 1937 (zLS i) []) : RS b L xs t W 822 (zLS i) [] := by
  obtain ⟨a, n, K, B, S, TL, Z, e, hc, hm, hp⟩ := hI
  have hw := hp.1.1
  have hg := hp.1.2
  have hb : (if zXs xs (i + 2) = 0 then (0 : Int) else 1) = 0 ∨ (if zXs xs (i + 2) = 0 then (0 : Int) else 1) = 1 := by split <;> omega
  refine rs_aload_n (k := 1) dL_law_822 rfl ?_
  refine rs_wj (b := b) 1 hL h0 (by decide) (by omega) rfl rfl dL_law_823 dL_law_824 dL_law_826 dL_law_827 dL_law_828 ?_
  refine rs_wj (b := b) 2 hL h0 (by decide) (by omega) rfl rfl dL_law_829 dL_law_830 dL_law_832 dL_law_833 dL_law_834 ?_
  refine rs_bool dL_law_835 (by decide) zXs_R dL_law_838 dL_law_839 (by decide) dL_law_842 ?_
  refine rs_aload_n (k := 3) dL_law_843 rfl ?_
  refine rs_sta (M' := ML_cost) (hh := hL_cost) (d' := 9) (t' := 1) (n := 4) (As := [_, _, _, _]) (pc := 844) dL_law_844 gL_cost ⟨by decide, by decide, by decide +kernel⟩ (by decide) (by omega) (Nat.le_of_ble_eq_true rfl) (Nat.le_of_ble_eq_true rfl) rfl (eL_cost (Nat.le_refl _) (eX6_cost hc.1 hw hc.2.1 zXs_R hb (fun g0 g1 W1 o1 gg => ⟨_, rfl, ?_⟩) (fun g => ⟨rfl, ?_⟩)))
  · have hc1 := (hc.g o1 gg).out (z := aCost a (zXs xs (i + 1)) (aP a (zXs xs (i + 1)) 2) (aRc a (zXs xs (i + 1))) (if zXs xs (i + 2) = 0 then 0 else 1))
    have hm1 := (hm.up o1.m).out (z := aCost a (zXs xs (i + 1)) (aP a (zXs xs (i + 1)) 2) (aRc a (zXs xs (i + 1))) (if zXs xs (i + 2) = 0 then 0 else 1))
    have hz : zup W1 128 0 (aCost a (zXs xs (i + 1)) (aP a (zXs xs (i + 1)) 2) (aRc a (zXs xs (i + 1))) (if zXs xs (i + 2) = 0 then 0 else 1)) 128 0 = aCost a (zXs xs (i + 1)) (aP a (zXs xs (i + 1)) 2) (aRc a (zXs xs (i + 1))) (if zXs xs (i + 2) = 0 then 0 else 1) := zup_s
    generalize zup W1 128 0 (aCost a (zXs xs (i + 1)) (aP a (zXs xs (i + 1)) 2) (aRc a (zXs xs (i + 1))) (if zXs xs (i + 2) = 0 then 0 else 1)) = W2 at hc1 hm1 hz ⊢
    refine rs_istore (pc := 847) dL_law_847 (by decide) ?_
    refine rs_aload_n (k := 2) (pc := 849) dL_law_849 rfl ?_
    refine rs_wj (b := b) 1 hL h0 (by decide) (by omega) rfl rfl dL_law_850 dL_law_851 dL_law_853 dL_law_854 dL_law_855 ?_
    refine rs_wj (b := b) 2 hL h0 (by decide) (by omega) rfl rfl dL_law_856 dL_law_857 dL_law_859 dL_law_860 dL_law_861 ?_
    refine rs_bool dL_law_862 (by decide) zXs_R dL_law_865 dL_law_866 (by decide) dL_law_869 ?_
    refine rs_inv0 (M' := MX7_cost) (k := 116) (As := [_, _]) (pc := 870) dL_law_870 lL_149 kX7_cost vX7_cost zk_116 (by decide) rfl (by decide) (Nat.le_of_ble_eq_true rfl) (Nat.le_of_ble_eq_true rfl) rfl (eX7_cost hm1.1 hw zXs_R hb (fun _ W3 o3 t3 => ?_) (fun g => absurd ⟨g0, g1⟩ g))
    exact rs_tail (m := 873) (k := 0) dL_law_873 dL_law_875 dL_law_876 dL_law_879 dL_law_881 dL_law_886 dL_law_888 dL_law_891 dL_law_892 dL_law_893 dL_law_894 dL_law_896 dL_law_897 dL_law_898 dL_law_903 (by decide) t3 (by unfold zR; omega) (fun h9 => by rw [o3.o]; exact hz) (k _ _ (by omega) (⟨a, n, K, B, S, TL, Z, e, hc1.up o3.c, hm1.Q o3, hp.mono (by omega) (by omega)⟩))
  · have hc1 := hc
    have hm1 := hm
    refine rs_istore (pc := 847) dL_law_847 (by decide) ?_
    refine rs_aload_n (k := 2) (pc := 849) dL_law_849 rfl ?_
    refine rs_wj (b := b) 1 hL h0 (by decide) (by omega) rfl rfl dL_law_850 dL_law_851 dL_law_853 dL_law_854 dL_law_855 ?_
    refine rs_wj (b := b) 2 hL h0 (by decide) (by omega) rfl rfl dL_law_856 dL_law_857 dL_law_859 dL_law_860 dL_law_861 ?_
    refine rs_bool dL_law_862 (by decide) zXs_R dL_law_865 dL_law_866 (by decide) dL_law_869 ?_
    refine rs_inv0 (M' := MX7_cost) (k := 116) (As := [_, _]) (pc := 870) dL_law_870 lL_149 kX7_cost vX7_cost zk_116 (by decide) rfl (by decide) (Nat.le_of_ble_eq_true rfl) (Nat.le_of_ble_eq_true rfl) rfl (eX7_cost hm1.1 hw zXs_R hb (fun g9 => absurd g9 g) (fun _ W3 o3 t3 => ?_))
    exact rs_tail (m := 873) (k := 1) dL_law_873 dL_law_875 dL_law_876 dL_law_879 dL_law_881 dL_law_886 dL_law_888 dL_law_891 dL_law_892 dL_law_893 dL_law_894 dL_law_896 dL_law_897 dL_law_898 dL_law_903 (by decide) t3 (by unfold zR; omega) (fun h9 => absurd h9 (by decide)) (k _ _ (by omega) (⟨a, n, K, B, S, TL, Z, e, hc1.up o3.c, hm1.Q o3, hp.mono (by omega) (by omega)⟩))
theorem lw_place {b L : Nat} {xs : Nat → Int32} {t : Nat} {W : zWd} {T i : Int} (hL : L ≤ 3072) (h0 : 0 ≤ i) (h1 : i + 6 ≤ L) (ht : 2 ≤ t) (hT : T + 8000 ≤ 100000000) (hI : zIv W T) (k : ∀ (W' : zWd) (t' : Nat), t - 2 ≤ t' → zIv W' (T + 26) → RS b L xs t' W' 1937 (zLS i) []) : RS b L xs t W 906 (zLS i) [] := by
  obtain ⟨a, n, K, B, S, TL, Z, e, hc, hm, hp⟩ := hI
  have hw := hp.1.1
  have hg := hp.1.2
  have hb : (if zXs xs (i + 2) = 0 then (0 : Int) else 1) = 0 ∨ (if zXs xs (i + 2) = 0 then (0 : Int) else 1) = 1 := by split <;> omega
  refine rs_aload_n (k := 1) dL_law_906 rfl ?_
  refine rs_wj (b := b) 1 hL h0 (by decide) (by omega) rfl rfl dL_law_907 dL_law_908 dL_law_910 dL_law_911 dL_law_912 ?_
  refine rs_wj (b := b) 2 hL h0 (by decide) (by omega) rfl rfl dL_law_913 dL_law_914 dL_law_916 dL_law_917 dL_law_918 ?_
  refine rs_bool dL_law_919 (by decide) zXs_R dL_law_922 dL_law_923 (by decide) dL_law_926 ?_
  refine rs_wj (b := b) 3 hL h0 (by decide) (by omega) rfl rfl dL_law_927 dL_law_928 dL_law_930 dL_law_931 dL_law_932 ?_
  refine rs_aload_n (k := 3) dL_law_933 rfl ?_
  refine rs_sta (M' := ML_place) (hh := hL_place) (d' := 9) (t' := 2) (n := 5) (As := [_, _, _, _, _]) (pc := 934) dL_law_934 gL_place ⟨by decide, by decide, by decide +kernel⟩ (by decide) (by omega) (Nat.le_of_ble_eq_true rfl) (Nat.le_of_ble_eq_true rfl) rfl (eL_place (Nat.le_refl _) (eX6_place hc.1 hw hc.2.1 zXs_R zXs_R hb (fun g0 g1 g2 W1 o1 gg => ⟨_, rfl, ?_⟩) (fun g => ⟨rfl, ?_⟩)))
  · have hc1 := (hc.g o1 gg).out (z := vPlace a (zXs xs (i + 1)) (if zXs xs (i + 2) = 0 then 0 else 1) (zXs xs (i + 3)))
    have hm1 := (hm.up o1.m).out (z := vPlace a (zXs xs (i + 1)) (if zXs xs (i + 2) = 0 then 0 else 1) (zXs xs (i + 3)))
    have hz : zup W1 128 0 (vPlace a (zXs xs (i + 1)) (if zXs xs (i + 2) = 0 then 0 else 1) (zXs xs (i + 3))) 128 0 = vPlace a (zXs xs (i + 1)) (if zXs xs (i + 2) = 0 then 0 else 1) (zXs xs (i + 3)) := zup_s
    generalize zup W1 128 0 (vPlace a (zXs xs (i + 1)) (if zXs xs (i + 2) = 0 then 0 else 1) (zXs xs (i + 3))) = W2 at hc1 hm1 hz ⊢
    refine rs_istore (pc := 937) dL_law_937 (by decide) ?_
    refine rs_aload_n (k := 2) (pc := 939) dL_law_939 rfl ?_
    refine rs_wj (b := b) 1 hL h0 (by decide) (by omega) rfl rfl dL_law_940 dL_law_941 dL_law_943 dL_law_944 dL_law_945 ?_
    refine rs_wj (b := b) 2 hL h0 (by decide) (by omega) rfl rfl dL_law_946 dL_law_947 dL_law_949 dL_law_950 dL_law_951 ?_
    refine rs_bool dL_law_952 (by decide) zXs_R dL_law_955 dL_law_956 (by decide) dL_law_959 ?_
    refine rs_wj (b := b) 3 hL h0 (by decide) (by omega) rfl rfl dL_law_960 dL_law_961 dL_law_963 dL_law_964 dL_law_965 ?_
    refine rs_inv0 (M' := MX7_place) (k := 116) (As := [_, _, _]) (pc := 966) dL_law_966 lL_153 kX7_place vX7_place zk_116 (by decide) rfl (by decide) (Nat.le_of_ble_eq_true rfl) (Nat.le_of_ble_eq_true rfl) rfl (eX7_place hm1.1 hw zXs_R zXs_R hb (fun _ W3 o3 t3 => ?_) (fun g => absurd ⟨⟨g0, g1⟩, g2⟩ g))
    exact rs_tail (m := 969) (k := 0) dL_law_969 dL_law_971 dL_law_972 dL_law_975 dL_law_977 dL_law_982 dL_law_984 dL_law_987 dL_law_988 dL_law_989 dL_law_990 dL_law_992 dL_law_993 dL_law_994 dL_law_999 (by decide) t3 (by unfold zR; omega) (fun h9 => by rw [o3.o]; exact hz) (k _ _ (by omega) (⟨a, n, K, B, S, TL, Z, e, hc1.up o3.c, hm1.Q o3, hp.mono (by omega) (by omega)⟩))
  · have hc1 := hc
    have hm1 := hm
    refine rs_istore (pc := 937) dL_law_937 (by decide) ?_
    refine rs_aload_n (k := 2) (pc := 939) dL_law_939 rfl ?_
    refine rs_wj (b := b) 1 hL h0 (by decide) (by omega) rfl rfl dL_law_940 dL_law_941 dL_law_943 dL_law_944 dL_law_945 ?_
    refine rs_wj (b := b) 2 hL h0 (by decide) (by omega) rfl rfl dL_law_946 dL_law_947 dL_law_949 dL_law_950 dL_law_951 ?_
    refine rs_bool dL_law_952 (by decide) zXs_R dL_law_955 dL_law_956 (by decide) dL_law_959 ?_
    refine rs_wj (b := b) 3 hL h0 (by decide) (by omega) rfl rfl dL_law_960 dL_law_961 dL_law_963 dL_law_964 dL_law_965 ?_
    refine rs_inv0 (M' := MX7_place) (k := 116) (As := [_, _, _]) (pc := 966) dL_law_966 lL_153 kX7_place vX7_place zk_116 (by decide) rfl (by decide) (Nat.le_of_ble_eq_true rfl) (Nat.le_of_ble_eq_true rfl) rfl (eX7_place hm1.1 hw zXs_R zXs_R hb (fun g9 => absurd ⟨g9.1.1, g9.1.2, g9.2⟩ g) (fun _ W3 o3 t3 => ?_))
    exact rs_tail (m := 969) (k := 1) dL_law_969 dL_law_971 dL_law_972 dL_law_975 dL_law_977 dL_law_982 dL_law_984 dL_law_987 dL_law_988 dL_law_989 dL_law_990 dL_law_992 dL_law_993 dL_law_994 dL_law_999 (by decide) t3 (by unfold zR; omega) (fun h9 => absurd h9 (by decide)) (k _ _ (by omega) (⟨a, n, K, B, S, TL, Z, e, hc1.up o3.c, hm1.Q o3, hp.mono (by omega) (by omega)⟩))
theorem lw_bestClaim {b L : Nat} {xs : Nat → Int32} {t : Nat} {W : zWd} {T i : Int} (hL : L ≤ 3072) (h0 : 0 ≤ i) (h1 : i + 6 ≤ L) (ht : 2 ≤ t) (hT : T + 8000 ≤ 100000000) (hI : zIv W T) (k : ∀ (W' : zWd) (t' : Nat), t - 2 ≤ t' → zIv W' (T + 26) → RS b L xs t' W' 1937 (zLS i) []) : RS b L xs t W 1114 (zLS i) [] := by
  obtain ⟨a, n, K, B, S, TL, Z, e, hc, hm, hp⟩ := hI
  have hw := hp.1.1
  have hg := hp.1.2
  refine rs_aload_n (k := 1) dL_law_1114 rfl ?_
  refine rs_wj (b := b) 1 hL h0 (by decide) (by omega) rfl rfl dL_law_1115 dL_law_1116 dL_law_1118 dL_law_1119 dL_law_1120 ?_
  refine rs_aload_n (k := 3) dL_law_1121 rfl ?_
  refine rs_sta (M' := ML_bestClaim) (hh := hL_bestClaim) (d' := 9) (t' := 1) (n := 3) (As := [_, _, _]) (pc := 1122) dL_law_1122 gL_bestClaim ⟨by decide, by decide, by decide +kernel⟩ (by decide) (by omega) (Nat.le_of_ble_eq_true rfl) (Nat.le_of_ble_eq_true rfl) rfl (eL_bestClaim (Nat.le_refl _) (eX6_bestClaim hc.1 hw hc.2.1 zXs_R (fun g0 g1 W1 o1 gg by1 => ⟨_, rfl, ?_⟩) (fun g => ⟨rfl, ?_⟩)))
  · have hc1 := (hc.p o1 gg by1).out (z := (aBc a (zXs xs (i + 1)) (a 1).toNat).1)
    have hm1 := (hm.up o1.m).out (z := (aBc a (zXs xs (i + 1)) (a 1).toNat).1)
    have hz : zup W1 128 0 ((aBc a (zXs xs (i + 1)) (a 1).toNat).1) 128 0 = (aBc a (zXs xs (i + 1)) (a 1).toNat).1 := zup_s
    generalize zup W1 128 0 ((aBc a (zXs xs (i + 1)) (a 1).toNat).1) = W2 at hc1 hm1 hz ⊢
    refine rs_istore (pc := 1125) dL_law_1125 (by decide) ?_
    refine rs_aload_n (k := 2) (pc := 1127) dL_law_1127 rfl ?_
    refine rs_wj (b := b) 1 hL h0 (by decide) (by omega) rfl rfl dL_law_1128 dL_law_1129 dL_law_1131 dL_law_1132 dL_law_1133 ?_
    refine rs_inv0 (M' := MX7_bestClaim) (k := 116) (As := [_]) (pc := 1134) dL_law_1134 lL_162 kX7_bestClaim vX7_bestClaim zk_116 (by decide) rfl (by decide) (Nat.le_of_ble_eq_true rfl) (Nat.le_of_ble_eq_true rfl) rfl (eX7_bestClaim hm1.1 hw hm1.2.1 zXs_R (fun _ W3 o3 t3 k3 e3 => ?_) (fun g => absurd ⟨g0, g1⟩ g))
    exact rs_tail (m := 1137) (k := 0) dL_law_1137 dL_law_1139 dL_law_1140 dL_law_1143 dL_law_1145 dL_law_1150 dL_law_1152 dL_law_1155 dL_law_1156 dL_law_1157 dL_law_1158 dL_law_1160 dL_law_1161 dL_law_1162 dL_law_1167 (by decide) t3 (by unfold zR; omega) (fun h9 => by rw [o3.o]; exact hz) (k _ _ (by omega) (⟨a, n, K, B, S, TL, Z, e, hc1.up o3.c, hm1.M o3 e3 k3, hp.mono (by omega) (by omega)⟩))
  · have hc1 := hc
    have hm1 := hm
    refine rs_istore (pc := 1125) dL_law_1125 (by decide) ?_
    refine rs_aload_n (k := 2) (pc := 1127) dL_law_1127 rfl ?_
    refine rs_wj (b := b) 1 hL h0 (by decide) (by omega) rfl rfl dL_law_1128 dL_law_1129 dL_law_1131 dL_law_1132 dL_law_1133 ?_
    refine rs_inv0 (M' := MX7_bestClaim) (k := 116) (As := [_]) (pc := 1134) dL_law_1134 lL_162 kX7_bestClaim vX7_bestClaim zk_116 (by decide) rfl (by decide) (Nat.le_of_ble_eq_true rfl) (Nat.le_of_ble_eq_true rfl) rfl (eX7_bestClaim hm1.1 hw hm1.2.1 zXs_R (fun g9 => absurd g9 g) (fun _ W3 o3 t3 k3 e3 => ?_))
    exact rs_tail (m := 1137) (k := 1) dL_law_1137 dL_law_1139 dL_law_1140 dL_law_1143 dL_law_1145 dL_law_1150 dL_law_1152 dL_law_1155 dL_law_1156 dL_law_1157 dL_law_1158 dL_law_1160 dL_law_1161 dL_law_1162 dL_law_1167 (by decide) t3 (by unfold zR; omega) (fun h9 => absurd h9 (by decide)) (k _ _ (by omega) (⟨a, n, K, B, S, TL, Z, e, hc1.up o3.c, hm1.M o3 e3 k3, hp.mono (by omega) (by omega)⟩))
/-- the reference's numbers agree with a, on the places that are read -/
theorem zIv.ea {W : zWd} {T : Int} {a a' : Int → Int} {n : Int} {K : Nat → (Int → Int)} {B : Int → Prop} {S : Int → (Int → Int)} {L Z : List Int} {e : Int} (hc : zIc W a n K B S L Z e) (hm : zIm W a' n K B S L Z e) (he : zEa a a') (hp : zIp T a n K B S Z e) : zIv W T :=
  ⟨a', n, K, B, S, L, Z, e, ⟨CR_ea hc.1 hp.1.1 he, hc.2⟩, hm, ⟨⟨zEa_wf he hp.1.1, zTg_ea hp.1.1 he hp.1.2⟩, hp.2⟩⟩
theorem lw_turnsToCrown {b L : Nat} {xs : Nat → Int32} {t : Nat} {W : zWd} {T i : Int} (hL : L ≤ 3072) (h0 : 0 ≤ i) (h1 : i + 6 ≤ L) (ht : 2 ≤ t) (hT : T + 8000 ≤ 100000000) (hI : zIv W T) (k : ∀ (W' : zWd) (t' : Nat), t - 2 ≤ t' → zIv W' (T + 26) → RS b L xs t' W' 1937 (zLS i) []) : RS b L xs t W 1170 (zLS i) [] := by
  obtain ⟨a, n, K, B, S, TL, Z, e, hc, hm, hp⟩ := hI
  have hw := hp.1.1
  have hg := hp.1.2
  refine rs_aload_n (k := 1) dL_law_1170 rfl ?_
  refine rs_wj (b := b) 1 hL h0 (by decide) (by omega) rfl rfl dL_law_1171 dL_law_1172 dL_law_1174 dL_law_1175 dL_law_1176 ?_
  refine rs_aload_n (k := 3) dL_law_1177 rfl ?_
  refine rs_sta (M' := ML_turnsToCrown) (hh := hL_turnsToCrown) (d' := 9) (t' := 1) (n := 3) (As := [_, _, _]) (pc := 1178) dL_law_1178 gL_turnsToCrown ⟨by decide, by decide, by decide +kernel⟩ (by decide) (by omega) (Nat.le_of_ble_eq_true rfl) (Nat.le_of_ble_eq_true rfl) rfl (eL_turnsToCrown (Nat.le_refl _) (eX6_turnsToCrown hc.1 hw hc.2.1 (by omega) zXs_R (fun g0 g1 W1 o1 gg by1 => ⟨_, rfl, ?_⟩) (fun g => ⟨rfl, ?_⟩)))
  · have hc1 := (hc.p o1 gg by1).out (z := (aUnt (zXs xs (i + 1)) 300 1 a).1)
    have hm1 := (hm.up o1.m).out (z := (aUnt (zXs xs (i + 1)) 300 1 a).1)
    have hz : zup W1 128 0 ((aUnt (zXs xs (i + 1)) 300 1 a).1) 128 0 = (aUnt (zXs xs (i + 1)) 300 1 a).1 := zup_s
    generalize zup W1 128 0 ((aUnt (zXs xs (i + 1)) 300 1 a).1) = W2 at hc1 hm1 hz ⊢
    refine rs_istore (pc := 1181) dL_law_1181 (by decide) ?_
    refine rs_aload_n (k := 2) (pc := 1183) dL_law_1183 rfl ?_
    refine rs_wj (b := b) 1 hL h0 (by decide) (by omega) rfl rfl dL_law_1184 dL_law_1185 dL_law_1187 dL_law_1188 dL_law_1189 ?_
    refine rs_inv0 (M' := MX7_turnsToCrown) (k := 116) (As := [_]) (pc := 1190) dL_law_1190 lL_165 kX7_turnsToCrown vX7_turnsToCrown zk_116 (by decide) rfl (by decide) (Nat.le_of_ble_eq_true rfl) (Nat.le_of_ble_eq_true rfl) rfl (eX7_turnsToCrown hm1.1 hw hm1.2.1 (by omega) zXs_R (fun _ W3 o3 t3 k3 e3 => ?_) (fun g => absurd ⟨g0, g1⟩ g))
    exact rs_tail (m := 1193) (k := 0) dL_law_1193 dL_law_1195 dL_law_1196 dL_law_1199 dL_law_1201 dL_law_1206 dL_law_1208 dL_law_1211 dL_law_1212 dL_law_1213 dL_law_1214 dL_law_1216 dL_law_1217 dL_law_1218 dL_law_1223 (by decide) t3 (by unfold zR; omega) (fun h9 => by rw [o3.o]; exact hz) (k _ _ (by omega) (zIv.ea (hc1.up o3.c) (hm1.M o3 rfl k3) (fun i9 g8 g9 => e3 i9 g8 g9) (hp.mono (by omega) (by omega))))
  · have hc1 := hc
    have hm1 := hm
    refine rs_istore (pc := 1181) dL_law_1181 (by decide) ?_
    refine rs_aload_n (k := 2) (pc := 1183) dL_law_1183 rfl ?_
    refine rs_wj (b := b) 1 hL h0 (by decide) (by omega) rfl rfl dL_law_1184 dL_law_1185 dL_law_1187 dL_law_1188 dL_law_1189 ?_
    refine rs_inv0 (M' := MX7_turnsToCrown) (k := 116) (As := [_]) (pc := 1190) dL_law_1190 lL_165 kX7_turnsToCrown vX7_turnsToCrown zk_116 (by decide) rfl (by decide) (Nat.le_of_ble_eq_true rfl) (Nat.le_of_ble_eq_true rfl) rfl (eX7_turnsToCrown hm1.1 hw hm1.2.1 (by omega) zXs_R (fun g9 => absurd g9 g) (fun _ W3 o3 t3 k3 e3 => ?_))
    exact rs_tail (m := 1193) (k := 1) dL_law_1193 dL_law_1195 dL_law_1196 dL_law_1199 dL_law_1201 dL_law_1206 dL_law_1208 dL_law_1211 dL_law_1212 dL_law_1213 dL_law_1214 dL_law_1216 dL_law_1217 dL_law_1218 dL_law_1223 (by decide) t3 (by unfold zR; omega) (fun h9 => absurd h9 (by decide)) (k _ _ (by omega) (⟨a, n, K, B, S, TL, Z, e, hc1.up o3.c, hm1.M o3 e3 k3, hp.mono (by omega) (by omega)⟩))
theorem lw_turn {b L : Nat} {xs : Nat → Int32} {t : Nat} {W : zWd} {T i : Int} (hL : L ≤ 3072) (h0 : 0 ≤ i) (h1 : i + 6 ≤ L) (ht : 2 ≤ t) (hT : T + 8000 ≤ 100000000) (hI : zIv W T) (k : ∀ (W' : zWd) (t' : Nat), t - 2 ≤ t' → zIv W' (T + 26) → RS b L xs t' W' 1937 (zLS i) []) : RS b L xs t W 1323 (zLS i) [] := by
  obtain ⟨a, n, K, B, S, TL, Z, e, hc, hm, hp⟩ := hI
  have hw := hp.1.1
  have hg := hp.1.2
  refine rs_aload_n (k := 1) dL_law_1323 rfl ?_
  refine rs_wj (b := b) 1 hL h0 (by decide) (by omega) rfl rfl dL_law_1324 dL_law_1325 dL_law_1327 dL_law_1328 dL_law_1329 ?_
  refine rs_wj (b := b) 2 hL h0 (by decide) (by omega) rfl rfl dL_law_1330 dL_law_1331 dL_law_1333 dL_law_1334 dL_law_1335 ?_
  refine rs_aload_n (k := 3) dL_law_1336 rfl ?_
  refine rs_sta (M' := ML_turn) (hh := hL_turn) (d' := 9) (t' := 1) (n := 4) (As := [_, _, _, _]) (pc := 1337) dL_law_1337 gL_turn ⟨by decide, by decide, by decide +kernel⟩ (by decide) (by omega) (Nat.le_of_ble_eq_true rfl) (Nat.le_of_ble_eq_true rfl) rfl (eL_turn (Nat.le_refl _) (eX6_turn hc.1 hw hc.2.2.2.1 hc.2.1 (by omega) zXs_R zXs_R (fun g0 W1 o1 gg c1 i1 => ⟨_, rfl, ?_⟩) (fun g => ⟨rfl, ?_⟩)))
  · have hc1 := (hc.C o1 gg c1 i1).out (z := aTfault a (zXs xs (i + 1)) (zXs xs (i + 2)))
    have hm1 := (hm.up o1.m).out (z := aTfault a (zXs xs (i + 1)) (zXs xs (i + 2)))
    have hz : zup W1 128 0 (aTfault a (zXs xs (i + 1)) (zXs xs (i + 2))) 128 0 = aTfault a (zXs xs (i + 1)) (zXs xs (i + 2)) := zup_s
    generalize zup W1 128 0 (aTfault a (zXs xs (i + 1)) (zXs xs (i + 2))) = W2 at hc1 hm1 hz ⊢
    refine rs_istore (pc := 1340) dL_law_1340 (by decide) ?_
    refine rs_aload_n (k := 2) (pc := 1342) dL_law_1342 rfl ?_
    refine rs_wj (b := b) 1 hL h0 (by decide) (by omega) rfl rfl dL_law_1343 dL_law_1344 dL_law_1346 dL_law_1347 dL_law_1348 ?_
    refine rs_wj (b := b) 2 hL h0 (by decide) (by omega) rfl rfl dL_law_1349 dL_law_1350 dL_law_1352 dL_law_1353 dL_law_1354 ?_
    refine rs_inv0 (M' := MX7_turn) (k := 116) (As := [_, _]) (pc := 1355) dL_law_1355 lL_182 kX7_turn vX7_turn zk_116 (by decide) rfl (by decide) (Nat.le_of_ble_eq_true rfl) (Nat.le_of_ble_eq_true rfl) rfl (eX7_turn hm1.1 hw hm1.2.1 (by omega) zXs_R zXs_R (fun _ W3 o3 t3 k3 e3 => ?_) (fun g => absurd g0 g))
    exact rs_tail (m := 1358) (k := 0) dL_law_1358 dL_law_1360 dL_law_1361 dL_law_1364 dL_law_1366 dL_law_1371 dL_law_1373 dL_law_1376 dL_law_1377 dL_law_1378 dL_law_1379 dL_law_1381 dL_law_1382 dL_law_1383 dL_law_1388 (by decide) t3 (by unfold zR; omega) (fun h9 => by rw [o3.o]; exact hz) (k _ _ (by omega) (⟨(aTurn a (zXs xs (i + 1)) (zXs xs (i + 2))), _, _, B, S, TL, Z, e, hc1.up o3.c, hm1.M o3 e3 k3, hp.push (by omega) (by omega) hc.2.2.2.1.2.2.1 (aTurn_wf hw (by omega) g0.2.2.1) (zTg_turn hw (by omega) hg)⟩))
  · have hc1 := hc
    have hm1 := hm
    refine rs_istore (pc := 1340) dL_law_1340 (by decide) ?_
    refine rs_aload_n (k := 2) (pc := 1342) dL_law_1342 rfl ?_
    refine rs_wj (b := b) 1 hL h0 (by decide) (by omega) rfl rfl dL_law_1343 dL_law_1344 dL_law_1346 dL_law_1347 dL_law_1348 ?_
    refine rs_wj (b := b) 2 hL h0 (by decide) (by omega) rfl rfl dL_law_1349 dL_law_1350 dL_law_1352 dL_law_1353 dL_law_1354 ?_
    refine rs_inv0 (M' := MX7_turn) (k := 116) (As := [_, _]) (pc := 1355) dL_law_1355 lL_182 kX7_turn vX7_turn zk_116 (by decide) rfl (by decide) (Nat.le_of_ble_eq_true rfl) (Nat.le_of_ble_eq_true rfl) rfl (eX7_turn hm1.1 hw hm1.2.1 (by omega) zXs_R zXs_R (fun g9 => absurd g9 g) (fun _ W3 o3 t3 k3 e3 => ?_))
    exact rs_tail (m := 1358) (k := 1) dL_law_1358 dL_law_1360 dL_law_1361 dL_law_1364 dL_law_1366 dL_law_1371 dL_law_1373 dL_law_1376 dL_law_1377 dL_law_1378 dL_law_1379 dL_law_1381 dL_law_1382 dL_law_1383 dL_law_1388 (by decide) t3 (by unfold zR; omega) (fun h9 => absurd h9 (by decide)) (k _ _ (by omega) (⟨a, n, K, B, S, TL, Z, e, hc1.up o3.c, hm1.M o3 e3 k3, hp.mono (by omega) (by omega)⟩))
