set_option maxHeartbeats 1000000 in
theorem lc_8 {p : Program} {l : Launch} {e : Env} {s : State} {m : MethodId} {below : List Frame} {meth : Method} {c : Code} {H : Heap} {locs : List Loc} {cells slots : Nat} {Q : State → Prop} {ls : Array Slot} {D : va_G} {cy : Nat → ClassId} {adc adm : Nat → Nat} {σc σm : hh_S} {b L k : Nat} {xs : Nat → Int32} (B : lk_B p s m meth c b L xs) (F : lk_F D cy adc adm s) (hk : k + 5 ≤ L) (hcl : cells ≤ 600000 ∧ slots ≤ 7302250) (h : lk_T D cy adc adm s σc σm H locs) (R : RR_s σc σm) (hl : lv_has ls 4 [(0, .ref b), (1, .ref (adc 0)), (2, .ref (adm 0)), (3, .int (nI k))]) (K : ∀ (u v : hh_S) (H1 : Heap) (locs1 : List Loc), lk_T D cy adc adm s u v H1 locs1 → RR_s u v → W p l e room_1 s m #[Value.ref b] below meth c H1 locs1 cells slots Q (F0 m 1111 ls [])) : W p l e room_1 s m #[Value.ref b] below meth c H locs cells slots Q (F0 m 370 ls []) := by
  obtain ⟨hx, hb, hml, hown, hts, hX, hbl, hL⟩ := B
  have hbA : ¬ (fun q : Nat => s.heap.size ≤ q) b := Nat.not_le.mpr hbl
  refine lv_aload_n hx hb dL_law_370 rfl (lv_at hl 1 rfl) ?_
  refine lv_aload_n hx hb dL_law_371 rfl (lv_at hl 0 rfl) ?_
  refine lv_iload_n hx hb dL_law_372 rfl (lv_at hl 3 rfl) ?_
  refine lv_iconst (v := (1 : Int32)) hx hb dL_law_373 (by decide) ?_
  refine lv_iadd hx hb dL_law_374 ?_
  refine va_sld hx hb hX hbl hbA h.2.2 (lk_ix (j := 1) (by decide) hk hL) dL_law_375 ?_
  refine lv_aload_n hx hb dL_law_376 rfl (lv_at hl 0 rfl) ?_
  refine lv_iload_n hx hb dL_law_377 rfl (lv_at hl 3 rfl) ?_
  refine lv_iconst (v := (2 : Int32)) hx hb dL_law_378 (by decide) ?_
  refine lv_iadd hx hb dL_law_379 ?_
  refine va_sld hx hb hX hbl hbA h.2.2 (lk_ix (j := 2) (by decide) hk hL) dL_law_380 ?_
  refine lk_cI F h (va_runV (As := [.int ((xs (nI k + (1 : Int32)).toNatClampNeg)), .int ((xs (nI k + (2 : Int32)).toNatClampNeg))]) (rest := []) ⟨hx, hb, hml, hown, hts⟩ (ad_X8_show (D := D) (cy := cy) l F.1 ((xs (nI k + (1 : Int32)).toNatClampNeg)) ((xs (nI k + (2 : Int32)).toNatClampNeg)) σc _ (ps_show ((xs (nI k + (1 : Int32)).toNatClampNeg)) ((xs (nI k + (2 : Int32)).toNatClampNeg)) σc σm R)) (cwV 2 hts gL_law_X8_show rfl rfl rfl nd_X8_show ⟨Nat.le_of_ble_eq_true rfl, Nat.le_of_ble_eq_true rfl⟩) (lk_pc F h [.int ((xs (nI k + (1 : Int32)).toNatClampNeg)), .int ((xs (nI k + (2 : Int32)).toNatClampNeg))]) rfl rfl hl.1 rfl (lv_room (Nat.le_of_ble_eq_true rfl)) dL_law_381 hcl) (fun r1 σc1 H locs hq h => ?_)
  refine lv_aload_n hx hb dL_law_384 rfl (lv_at hl 2 rfl) ?_
  refine lv_aload_n hx hb dL_law_385 rfl (lv_at hl 0 rfl) ?_
  refine lv_iload_n hx hb dL_law_386 rfl (lv_at hl 3 rfl) ?_
  refine lv_iconst (v := (1 : Int32)) hx hb dL_law_387 (by decide) ?_
  refine lv_iadd hx hb dL_law_388 ?_
  refine va_sld hx hb hX hbl hbA h.2.2 (lk_ix (j := 1) (by decide) hk hL) dL_law_389 ?_
  refine lv_aload_n hx hb dL_law_390 rfl (lv_at hl 0 rfl) ?_
  refine lv_iload_n hx hb dL_law_391 rfl (lv_at hl 3 rfl) ?_
  refine lv_iconst (v := (2 : Int32)) hx hb dL_law_392 (by decide) ?_
  refine lv_iadd hx hb dL_law_393 ?_
  refine va_sld hx hb hX hbl hbA h.2.2 (lk_ix (j := 2) (by decide) hk hL) dL_law_394 ?_
  refine lk_mI F h (va_runV (As := [.int ((xs (nI k + (1 : Int32)).toNatClampNeg)), .int ((xs (nI k + (2 : Int32)).toNatClampNeg))]) (rest := [.int r1]) ⟨hx, hb, hml, hown, hts⟩ (ad_X9_show (D := D) (cy := cy) l F.2.1 ((xs (nI k + (1 : Int32)).toNatClampNeg)) ((xs (nI k + (2 : Int32)).toNatClampNeg)) σm _ hq) (cwV 2 hts gL_law_X9_show rfl rfl rfl nd_X9_show ⟨Nat.le_of_ble_eq_true rfl, Nat.le_of_ble_eq_true rfl⟩) (lk_pm F h [.int ((xs (nI k + (1 : Int32)).toNatClampNeg)), .int ((xs (nI k + (2 : Int32)).toNatClampNeg))]) rfl rfl hl.1 rfl (lv_room (Nat.le_of_ble_eq_true rfl)) dL_law_395 hcl) (fun r2 σm1 H locs hq h => ?_)
  exact lv_icmp_eq (tgt := 1111) hx hb dL_law_398 (by decide) (fun _ => K _ _ _ _ h hq.2) (fun w => absurd hq.1 w)
set_option maxHeartbeats 1000000 in
theorem lc_9 {p : Program} {l : Launch} {e : Env} {s : State} {m : MethodId} {below : List Frame} {meth : Method} {c : Code} {H : Heap} {locs : List Loc} {cells slots : Nat} {Q : State → Prop} {ls : Array Slot} {D : va_G} {cy : Nat → ClassId} {adc adm : Nat → Nat} {σc σm : hh_S} {b L k : Nat} {xs : Nat → Int32} (B : lk_B p s m meth c b L xs) (F : lk_F D cy adc adm s) (hk : k + 5 ≤ L) (hcl : cells ≤ 600000 ∧ slots ≤ 7302250) (h : lk_T D cy adc adm s σc σm H locs) (R : RR_s σc σm) (hl : lv_has ls 4 [(0, .ref b), (1, .ref (adc 0)), (2, .ref (adm 0)), (3, .int (nI k))]) (K : ∀ (u v : hh_S) (H1 : Heap) (locs1 : List Loc), lk_T D cy adc adm s u v H1 locs1 → RR_s u v → W p l e room_1 s m #[Value.ref b] below meth c H1 locs1 cells slots Q (F0 m 1111 ls [])) : W p l e room_1 s m #[Value.ref b] below meth c H locs cells slots Q (F0 m 403 ls []) := by
  obtain ⟨hx, hb, hml, hown, hts, hX, hbl, hL⟩ := B
  have hbA : ¬ (fun q : Nat => s.heap.size ≤ q) b := Nat.not_le.mpr hbl
  refine lv_aload_n hx hb dL_law_403 rfl (lv_at hl 1 rfl) ?_
  refine lv_aload_n hx hb dL_law_404 rfl (lv_at hl 0 rfl) ?_
  refine lv_iload_n hx hb dL_law_405 rfl (lv_at hl 3 rfl) ?_
  refine lv_iconst (v := (1 : Int32)) hx hb dL_law_406 (by decide) ?_
  refine lv_iadd hx hb dL_law_407 ?_
  refine va_sld hx hb hX hbl hbA h.2.2 (lk_ix (j := 1) (by decide) hk hL) dL_law_408 ?_
  refine lv_aload_n hx hb dL_law_409 rfl (lv_at hl 0 rfl) ?_
  refine lv_iload_n hx hb dL_law_410 rfl (lv_at hl 3 rfl) ?_
  refine lv_iconst (v := (2 : Int32)) hx hb dL_law_411 (by decide) ?_
  refine lv_iadd hx hb dL_law_412 ?_
  refine va_sld hx hb hX hbl hbA h.2.2 (lk_ix (j := 2) (by decide) hk hL) dL_law_413 ?_
  refine lk_cI F h (va_runV (As := [.int ((xs (nI k + (1 : Int32)).toNatClampNeg)), .int ((xs (nI k + (2 : Int32)).toNatClampNeg))]) (rest := []) ⟨hx, hb, hml, hown, hts⟩ (ad_X8_ofItem (D := D) (cy := cy) l F.1 ((xs (nI k + (1 : Int32)).toNatClampNeg)) ((xs (nI k + (2 : Int32)).toNatClampNeg)) σc _ (ps_ofItem ((xs (nI k + (1 : Int32)).toNatClampNeg)) ((xs (nI k + (2 : Int32)).toNatClampNeg)) σc σm R)) (cwV 2 hts gL_law_X8_ofItem rfl rfl rfl nd_X8_ofItem ⟨Nat.le_of_ble_eq_true rfl, Nat.le_of_ble_eq_true rfl⟩) (lk_pc F h [.int ((xs (nI k + (1 : Int32)).toNatClampNeg)), .int ((xs (nI k + (2 : Int32)).toNatClampNeg))]) rfl rfl hl.1 rfl (lv_room (Nat.le_of_ble_eq_true rfl)) dL_law_414 hcl) (fun r1 σc1 H locs hq h => ?_)
  refine lv_aload_n hx hb dL_law_417 rfl (lv_at hl 2 rfl) ?_
  refine lv_aload_n hx hb dL_law_418 rfl (lv_at hl 0 rfl) ?_
  refine lv_iload_n hx hb dL_law_419 rfl (lv_at hl 3 rfl) ?_
  refine lv_iconst (v := (1 : Int32)) hx hb dL_law_420 (by decide) ?_
  refine lv_iadd hx hb dL_law_421 ?_
  refine va_sld hx hb hX hbl hbA h.2.2 (lk_ix (j := 1) (by decide) hk hL) dL_law_422 ?_
  refine lv_aload_n hx hb dL_law_423 rfl (lv_at hl 0 rfl) ?_
  refine lv_iload_n hx hb dL_law_424 rfl (lv_at hl 3 rfl) ?_
  refine lv_iconst (v := (2 : Int32)) hx hb dL_law_425 (by decide) ?_
  refine lv_iadd hx hb dL_law_426 ?_
  refine va_sld hx hb hX hbl hbA h.2.2 (lk_ix (j := 2) (by decide) hk hL) dL_law_427 ?_
  refine lk_mI F h (va_runV (As := [.int ((xs (nI k + (1 : Int32)).toNatClampNeg)), .int ((xs (nI k + (2 : Int32)).toNatClampNeg))]) (rest := [.int r1]) ⟨hx, hb, hml, hown, hts⟩ (ad_X9_ofItem (D := D) (cy := cy) l F.2.1 ((xs (nI k + (1 : Int32)).toNatClampNeg)) ((xs (nI k + (2 : Int32)).toNatClampNeg)) σm _ hq) (cwV 2 hts gL_law_X9_ofItem rfl rfl rfl nd_X9_ofItem ⟨Nat.le_of_ble_eq_true rfl, Nat.le_of_ble_eq_true rfl⟩) (lk_pm F h [.int ((xs (nI k + (1 : Int32)).toNatClampNeg)), .int ((xs (nI k + (2 : Int32)).toNatClampNeg))]) rfl rfl hl.1 rfl (lv_room (Nat.le_of_ble_eq_true rfl)) dL_law_428 hcl) (fun r2 σm1 H locs hq h => ?_)
  exact lv_icmp_eq (tgt := 1111) hx hb dL_law_431 (by decide) (fun _ => K _ _ _ _ h hq.2) (fun w => absurd hq.1 w)
set_option maxHeartbeats 1000000 in
theorem lc_10 {p : Program} {l : Launch} {e : Env} {s : State} {m : MethodId} {below : List Frame} {meth : Method} {c : Code} {H : Heap} {locs : List Loc} {cells slots : Nat} {Q : State → Prop} {ls : Array Slot} {D : va_G} {cy : Nat → ClassId} {adc adm : Nat → Nat} {σc σm : hh_S} {b L k : Nat} {xs : Nat → Int32} (B : lk_B p s m meth c b L xs) (F : lk_F D cy adc adm s) (hk : k + 5 ≤ L) (hcl : cells ≤ 600000 ∧ slots ≤ 7302250) (h : lk_T D cy adc adm s σc σm H locs) (R : RR_s σc σm) (hl : lv_has ls 4 [(0, .ref b), (1, .ref (adc 0)), (2, .ref (adm 0)), (3, .int (nI k))]) (K : ∀ (u v : hh_S) (H1 : Heap) (locs1 : List Loc), lk_T D cy adc adm s u v H1 locs1 → RR_s u v → W p l e room_1 s m #[Value.ref b] below meth c H1 locs1 cells slots Q (F0 m 1111 ls [])) : W p l e room_1 s m #[Value.ref b] below meth c H locs cells slots Q (F0 m 436 ls []) := by
  obtain ⟨hx, hb, hml, hown, hts, hX, hbl, hL⟩ := B
  have hbA : ¬ (fun q : Nat => s.heap.size ≤ q) b := Nat.not_le.mpr hbl
  refine lv_aload_n hx hb dL_law_436 rfl (lv_at hl 1 rfl) ?_
  refine lk_cI F h (va_runV (As := []) (rest := []) ⟨hx, hb, hml, hown, hts⟩ (ad_X8_hand (D := D) (cy := cy) l F.1 σc _ (ps_hand σc σm R)) (cwV 0 hts gL_law_X8_hand rfl rfl rfl nd_X8_hand ⟨Nat.le_of_ble_eq_true rfl, Nat.le_of_ble_eq_true rfl⟩) (lk_pc F h []) rfl rfl hl.1 rfl (lv_room (Nat.le_of_ble_eq_true rfl)) dL_law_437 hcl) (fun r1 σc1 H locs hq h => ?_)
  refine lv_aload_n hx hb dL_law_440 rfl (lv_at hl 2 rfl) ?_
  refine lk_mI F h (va_runV (As := []) (rest := [.int r1]) ⟨hx, hb, hml, hown, hts⟩ (ad_X9_hand (D := D) (cy := cy) l F.2.1 σm _ hq) (cwV 0 hts gL_law_X9_hand rfl rfl rfl nd_X9_hand ⟨Nat.le_of_ble_eq_true rfl, Nat.le_of_ble_eq_true rfl⟩) (lk_pm F h []) rfl rfl hl.1 rfl (lv_room (Nat.le_of_ble_eq_true rfl)) dL_law_441 hcl) (fun r2 σm1 H locs hq h => ?_)
  exact lv_icmp_eq (tgt := 1111) hx hb dL_law_444 (by decide) (fun _ => K _ _ _ _ h hq.2) (fun w => absurd hq.1 w)
set_option maxHeartbeats 1000000 in
theorem lc_11 {p : Program} {l : Launch} {e : Env} {s : State} {m : MethodId} {below : List Frame} {meth : Method} {c : Code} {H : Heap} {locs : List Loc} {cells slots : Nat} {Q : State → Prop} {ls : Array Slot} {D : va_G} {cy : Nat → ClassId} {adc adm : Nat → Nat} {σc σm : hh_S} {b L k : Nat} {xs : Nat → Int32} (B : lk_B p s m meth c b L xs) (F : lk_F D cy adc adm s) (hk : k + 5 ≤ L) (hcl : cells ≤ 600000 ∧ slots ≤ 7302250) (h : lk_T D cy adc adm s σc σm H locs) (R : RR_s σc σm) (hl : lv_has ls 4 [(0, .ref b), (1, .ref (adc 0)), (2, .ref (adm 0)), (3, .int (nI k))]) (K : ∀ (u v : hh_S) (H1 : Heap) (locs1 : List Loc), lk_T D cy adc adm s u v H1 locs1 → RR_s u v → W p l e room_1 s m #[Value.ref b] below meth c H1 locs1 cells slots Q (F0 m 1111 ls [])) : W p l e room_1 s m #[Value.ref b] below meth c H locs cells slots Q (F0 m 449 ls []) := by
  obtain ⟨hx, hb, hml, hown, hts, hX, hbl, hL⟩ := B
  have hbA : ¬ (fun q : Nat => s.heap.size ≤ q) b := Nat.not_le.mpr hbl
  refine lv_aload_n hx hb dL_law_449 rfl (lv_at hl 1 rfl) ?_
  refine lv_aload_n hx hb dL_law_450 rfl (lv_at hl 0 rfl) ?_
  refine lv_iload_n hx hb dL_law_451 rfl (lv_at hl 3 rfl) ?_
  refine lv_iconst (v := (1 : Int32)) hx hb dL_law_452 (by decide) ?_
  refine lv_iadd hx hb dL_law_453 ?_
  refine va_sld hx hb hX hbl hbA h.2.2 (lk_ix (j := 1) (by decide) hk hL) dL_law_454 ?_
  refine lv_aload_n hx hb dL_law_455 rfl (lv_at hl 0 rfl) ?_
  refine lv_iload_n hx hb dL_law_456 rfl (lv_at hl 3 rfl) ?_
  refine lv_iconst (v := (2 : Int32)) hx hb dL_law_457 (by decide) ?_
  refine lv_iadd hx hb dL_law_458 ?_
  refine va_sld hx hb hX hbl hbA h.2.2 (lk_ix (j := 2) (by decide) hk hL) dL_law_459 ?_
  refine lv_if_eq (tgt := 467) hx hb dL_law_460 (by decide) (fun z460 => ?_) (fun z460 => ?_)
  · skip
    refine lv_iconst (v := (0 : Int32)) hx hb dL_law_467 (by decide) ?_
    refine lk_cI F h (va_runV (As := [.int ((xs (nI k + (1 : Int32)).toNatClampNeg)), .int ((0 : Int32))]) (rest := []) ⟨hx, hb, hml, hown, hts⟩ (ad_X8_out (D := D) (cy := cy) l F.1 ((xs (nI k + (1 : Int32)).toNatClampNeg)) ((0 : Int32)) σc _ (ps_out ((xs (nI k + (1 : Int32)).toNatClampNeg)) false σc σm R)) (cwV 2 hts gL_law_X8_out rfl rfl rfl nd_X8_out ⟨Nat.le_of_ble_eq_true rfl, Nat.le_of_ble_eq_true rfl⟩) (lk_pc F h [.int ((xs (nI k + (1 : Int32)).toNatClampNeg)), .int ((0 : Int32))]) rfl rfl hl.1 rfl (lv_room (Nat.le_of_ble_eq_true rfl)) dL_law_468 hcl) (fun r1 σc1 H locs hq h => ?_)
    refine lv_aload_n hx hb dL_law_471 rfl (lv_at hl 2 rfl) ?_
    refine lv_aload_n hx hb dL_law_472 rfl (lv_at hl 0 rfl) ?_
    refine lv_iload_n hx hb dL_law_473 rfl (lv_at hl 3 rfl) ?_
    refine lv_iconst (v := (1 : Int32)) hx hb dL_law_474 (by decide) ?_
    refine lv_iadd hx hb dL_law_475 ?_
    refine va_sld hx hb hX hbl hbA h.2.2 (lk_ix (j := 1) (by decide) hk hL) dL_law_476 ?_
    refine lv_aload_n hx hb dL_law_477 rfl (lv_at hl 0 rfl) ?_
    refine lv_iload_n hx hb dL_law_478 rfl (lv_at hl 3 rfl) ?_
    refine lv_iconst (v := (2 : Int32)) hx hb dL_law_479 (by decide) ?_
    refine lv_iadd hx hb dL_law_480 ?_
    refine va_sld hx hb hX hbl hbA h.2.2 (lk_ix (j := 2) (by decide) hk hL) dL_law_481 ?_
    refine lv_if_eq (tgt := 489) hx hb dL_law_482 (by decide) (fun z482 => ?_) (fun z482 => absurd z460 z482)
    refine lv_iconst (v := (0 : Int32)) hx hb dL_law_489 (by decide) ?_
    refine lk_mI F h (va_runV (As := [.int ((xs (nI k + (1 : Int32)).toNatClampNeg)), .int ((0 : Int32))]) (rest := [.int r1]) ⟨hx, hb, hml, hown, hts⟩ (ad_X9_out (D := D) (cy := cy) l F.2.1 ((xs (nI k + (1 : Int32)).toNatClampNeg)) ((0 : Int32)) σm _ hq) (cwV 2 hts gL_law_X9_out rfl rfl rfl nd_X9_out ⟨Nat.le_of_ble_eq_true rfl, Nat.le_of_ble_eq_true rfl⟩) (lk_pm F h [.int ((xs (nI k + (1 : Int32)).toNatClampNeg)), .int ((0 : Int32))]) rfl rfl hl.1 rfl (lv_room (Nat.le_of_ble_eq_true rfl)) dL_law_490 hcl) (fun r2 σm1 H locs hq h => ?_)
    exact lv_icmp_eq (tgt := 1111) hx hb dL_law_493 (by decide) (fun _ => K _ _ _ _ h hq.2) (fun w => absurd hq.1 w)
  · skip
    refine lv_iconst (v := (1 : Int32)) hx hb dL_law_463 (by decide) ?_
    refine lv_goto (tgt := 468) hx hb dL_law_464 (by decide) ?_
    refine lk_cI F h (va_runV (As := [.int ((xs (nI k + (1 : Int32)).toNatClampNeg)), .int ((1 : Int32))]) (rest := []) ⟨hx, hb, hml, hown, hts⟩ (ad_X8_out (D := D) (cy := cy) l F.1 ((xs (nI k + (1 : Int32)).toNatClampNeg)) ((1 : Int32)) σc _ (ps_out ((xs (nI k + (1 : Int32)).toNatClampNeg)) true σc σm R)) (cwV 2 hts gL_law_X8_out rfl rfl rfl nd_X8_out ⟨Nat.le_of_ble_eq_true rfl, Nat.le_of_ble_eq_true rfl⟩) (lk_pc F h [.int ((xs (nI k + (1 : Int32)).toNatClampNeg)), .int ((1 : Int32))]) rfl rfl hl.1 rfl (lv_room (Nat.le_of_ble_eq_true rfl)) dL_law_468 hcl) (fun r1 σc1 H locs hq h => ?_)
    refine lv_aload_n hx hb dL_law_471 rfl (lv_at hl 2 rfl) ?_
    refine lv_aload_n hx hb dL_law_472 rfl (lv_at hl 0 rfl) ?_
    refine lv_iload_n hx hb dL_law_473 rfl (lv_at hl 3 rfl) ?_
    refine lv_iconst (v := (1 : Int32)) hx hb dL_law_474 (by decide) ?_
    refine lv_iadd hx hb dL_law_475 ?_
    refine va_sld hx hb hX hbl hbA h.2.2 (lk_ix (j := 1) (by decide) hk hL) dL_law_476 ?_
    refine lv_aload_n hx hb dL_law_477 rfl (lv_at hl 0 rfl) ?_
    refine lv_iload_n hx hb dL_law_478 rfl (lv_at hl 3 rfl) ?_
    refine lv_iconst (v := (2 : Int32)) hx hb dL_law_479 (by decide) ?_
    refine lv_iadd hx hb dL_law_480 ?_
    refine va_sld hx hb hX hbl hbA h.2.2 (lk_ix (j := 2) (by decide) hk hL) dL_law_481 ?_
    refine lv_if_eq (tgt := 489) hx hb dL_law_482 (by decide) (fun z482 => absurd z482 z460) (fun z482 => ?_)
    refine lv_iconst (v := (1 : Int32)) hx hb dL_law_485 (by decide) ?_
    refine lv_goto (tgt := 490) hx hb dL_law_486 (by decide) ?_
    refine lk_mI F h (va_runV (As := [.int ((xs (nI k + (1 : Int32)).toNatClampNeg)), .int ((1 : Int32))]) (rest := [.int r1]) ⟨hx, hb, hml, hown, hts⟩ (ad_X9_out (D := D) (cy := cy) l F.2.1 ((xs (nI k + (1 : Int32)).toNatClampNeg)) ((1 : Int32)) σm _ hq) (cwV 2 hts gL_law_X9_out rfl rfl rfl nd_X9_out ⟨Nat.le_of_ble_eq_true rfl, Nat.le_of_ble_eq_true rfl⟩) (lk_pm F h [.int ((xs (nI k + (1 : Int32)).toNatClampNeg)), .int ((1 : Int32))]) rfl rfl hl.1 rfl (lv_room (Nat.le_of_ble_eq_true rfl)) dL_law_490 hcl) (fun r2 σm1 H locs hq h => ?_)
    exact lv_icmp_eq (tgt := 1111) hx hb dL_law_493 (by decide) (fun _ => K _ _ _ _ h hq.2) (fun w => absurd hq.1 w)
set_option maxHeartbeats 1000000 in
theorem lc_12 {p : Program} {l : Launch} {e : Env} {s : State} {m : MethodId} {below : List Frame} {meth : Method} {c : Code} {H : Heap} {locs : List Loc} {cells slots : Nat} {Q : State → Prop} {ls : Array Slot} {D : va_G} {cy : Nat → ClassId} {adc adm : Nat → Nat} {σc σm : hh_S} {b L k : Nat} {xs : Nat → Int32} (B : lk_B p s m meth c b L xs) (F : lk_F D cy adc adm s) (hk : k + 5 ≤ L) (hcl : cells ≤ 600000 ∧ slots ≤ 7302250) (h : lk_T D cy adc adm s σc σm H locs) (R : RR_s σc σm) (hl : lv_has ls 4 [(0, .ref b), (1, .ref (adc 0)), (2, .ref (adm 0)), (3, .int (nI k))]) (K : ∀ (u v : hh_S) (H1 : Heap) (locs1 : List Loc), lk_T D cy adc adm s u v H1 locs1 → RR_s u v → W p l e room_1 s m #[Value.ref b] below meth c H1 locs1 cells slots Q (F0 m 1111 ls [])) : W p l e room_1 s m #[Value.ref b] below meth c H locs cells slots Q (F0 m 498 ls []) := by
  obtain ⟨hx, hb, hml, hown, hts, hX, hbl, hL⟩ := B
  have hbA : ¬ (fun q : Nat => s.heap.size ≤ q) b := Nat.not_le.mpr hbl
  refine lv_aload_n hx hb dL_law_498 rfl (lv_at hl 1 rfl) ?_
  refine lv_aload_n hx hb dL_law_499 rfl (lv_at hl 0 rfl) ?_
  refine lv_iload_n hx hb dL_law_500 rfl (lv_at hl 3 rfl) ?_
  refine lv_iconst (v := (1 : Int32)) hx hb dL_law_501 (by decide) ?_
  refine lv_iadd hx hb dL_law_502 ?_
  refine va_sld hx hb hX hbl hbA h.2.2 (lk_ix (j := 1) (by decide) hk hL) dL_law_503 ?_
  refine lv_aload_n hx hb dL_law_504 rfl (lv_at hl 0 rfl) ?_
  refine lv_iload_n hx hb dL_law_505 rfl (lv_at hl 3 rfl) ?_
  refine lv_iconst (v := (2 : Int32)) hx hb dL_law_506 (by decide) ?_
  refine lv_iadd hx hb dL_law_507 ?_
  refine va_sld hx hb hX hbl hbA h.2.2 (lk_ix (j := 2) (by decide) hk hL) dL_law_508 ?_
  refine lv_aload_n hx hb dL_law_509 rfl (lv_at hl 0 rfl) ?_
  refine lv_iload_n hx hb dL_law_510 rfl (lv_at hl 3 rfl) ?_
  refine lv_iconst (v := (3 : Int32)) hx hb dL_law_511 (by decide) ?_
  refine lv_iadd hx hb dL_law_512 ?_
  refine va_sld hx hb hX hbl hbA h.2.2 (lk_ix (j := 3) (by decide) hk hL) dL_law_513 ?_
  refine lk_cI F h (va_runV (As := [.int ((xs (nI k + (1 : Int32)).toNatClampNeg)), .int ((xs (nI k + (2 : Int32)).toNatClampNeg)), .int ((xs (nI k + (3 : Int32)).toNatClampNeg))]) (rest := []) ⟨hx, hb, hml, hown, hts⟩ (ad_X8_answer (D := D) (cy := cy) l F.1 ((xs (nI k + (1 : Int32)).toNatClampNeg)) ((xs (nI k + (2 : Int32)).toNatClampNeg)) ((xs (nI k + (3 : Int32)).toNatClampNeg)) σc _ (ps_answer ((xs (nI k + (1 : Int32)).toNatClampNeg)) ((xs (nI k + (2 : Int32)).toNatClampNeg)) ((xs (nI k + (3 : Int32)).toNatClampNeg)) σc σm R)) (cwV 3 hts gL_law_X8_answer rfl rfl rfl nd_X8_answer ⟨Nat.le_of_ble_eq_true rfl, Nat.le_of_ble_eq_true rfl⟩) (lk_pc F h [.int ((xs (nI k + (1 : Int32)).toNatClampNeg)), .int ((xs (nI k + (2 : Int32)).toNatClampNeg)), .int ((xs (nI k + (3 : Int32)).toNatClampNeg))]) rfl rfl hl.1 rfl (lv_room (Nat.le_of_ble_eq_true rfl)) dL_law_514 hcl) (fun r1 σc1 H locs hq h => ?_)
  refine lv_aload_n hx hb dL_law_517 rfl (lv_at hl 2 rfl) ?_
  refine lv_aload_n hx hb dL_law_518 rfl (lv_at hl 0 rfl) ?_
  refine lv_iload_n hx hb dL_law_519 rfl (lv_at hl 3 rfl) ?_
  refine lv_iconst (v := (1 : Int32)) hx hb dL_law_520 (by decide) ?_
  refine lv_iadd hx hb dL_law_521 ?_
  refine va_sld hx hb hX hbl hbA h.2.2 (lk_ix (j := 1) (by decide) hk hL) dL_law_522 ?_
  refine lv_aload_n hx hb dL_law_523 rfl (lv_at hl 0 rfl) ?_
  refine lv_iload_n hx hb dL_law_524 rfl (lv_at hl 3 rfl) ?_
  refine lv_iconst (v := (2 : Int32)) hx hb dL_law_525 (by decide) ?_
  refine lv_iadd hx hb dL_law_526 ?_
  refine va_sld hx hb hX hbl hbA h.2.2 (lk_ix (j := 2) (by decide) hk hL) dL_law_527 ?_
  refine lv_aload_n hx hb dL_law_528 rfl (lv_at hl 0 rfl) ?_
  refine lv_iload_n hx hb dL_law_529 rfl (lv_at hl 3 rfl) ?_
  refine lv_iconst (v := (3 : Int32)) hx hb dL_law_530 (by decide) ?_
  refine lv_iadd hx hb dL_law_531 ?_
  refine va_sld hx hb hX hbl hbA h.2.2 (lk_ix (j := 3) (by decide) hk hL) dL_law_532 ?_
  refine lk_mI F h (va_runV (As := [.int ((xs (nI k + (1 : Int32)).toNatClampNeg)), .int ((xs (nI k + (2 : Int32)).toNatClampNeg)), .int ((xs (nI k + (3 : Int32)).toNatClampNeg))]) (rest := [.int r1]) ⟨hx, hb, hml, hown, hts⟩ (ad_X9_answer (D := D) (cy := cy) l F.2.1 ((xs (nI k + (1 : Int32)).toNatClampNeg)) ((xs (nI k + (2 : Int32)).toNatClampNeg)) ((xs (nI k + (3 : Int32)).toNatClampNeg)) σm _ hq) (cwV 3 hts gL_law_X9_answer rfl rfl rfl nd_X9_answer ⟨Nat.le_of_ble_eq_true rfl, Nat.le_of_ble_eq_true rfl⟩) (lk_pm F h [.int ((xs (nI k + (1 : Int32)).toNatClampNeg)), .int ((xs (nI k + (2 : Int32)).toNatClampNeg)), .int ((xs (nI k + (3 : Int32)).toNatClampNeg))]) rfl rfl hl.1 rfl (lv_room (Nat.le_of_ble_eq_true rfl)) dL_law_533 hcl) (fun r2 σm1 H locs hq h => ?_)
  exact lv_icmp_eq (tgt := 1111) hx hb dL_law_536 (by decide) (fun _ => K _ _ _ _ h hq.2) (fun w => absurd hq.1 w)
set_option maxHeartbeats 1000000 in
theorem lc_13 {p : Program} {l : Launch} {e : Env} {s : State} {m : MethodId} {below : List Frame} {meth : Method} {c : Code} {H : Heap} {locs : List Loc} {cells slots : Nat} {Q : State → Prop} {ls : Array Slot} {D : va_G} {cy : Nat → ClassId} {adc adm : Nat → Nat} {σc σm : hh_S} {b L k : Nat} {xs : Nat → Int32} (B : lk_B p s m meth c b L xs) (F : lk_F D cy adc adm s) (hk : k + 5 ≤ L) (hcl : cells ≤ 600000 ∧ slots ≤ 7302250) (h : lk_T D cy adc adm s σc σm H locs) (R : RR_s σc σm) (hl : lv_has ls 4 [(0, .ref b), (1, .ref (adc 0)), (2, .ref (adm 0)), (3, .int (nI k))]) (K : ∀ (u v : hh_S) (H1 : Heap) (locs1 : List Loc), lk_T D cy adc adm s u v H1 locs1 → RR_s u v → W p l e room_1 s m #[Value.ref b] below meth c H1 locs1 cells slots Q (F0 m 1111 ls [])) : W p l e room_1 s m #[Value.ref b] below meth c H locs cells slots Q (F0 m 541 ls []) := by
  obtain ⟨hx, hb, hml, hown, hts, hX, hbl, hL⟩ := B
  have hbA : ¬ (fun q : Nat => s.heap.size ≤ q) b := Nat.not_le.mpr hbl
  refine lv_aload_n hx hb dL_law_541 rfl (lv_at hl 1 rfl) ?_
  refine lv_aload_n hx hb dL_law_542 rfl (lv_at hl 0 rfl) ?_
  refine lv_iload_n hx hb dL_law_543 rfl (lv_at hl 3 rfl) ?_
  refine lv_iconst (v := (1 : Int32)) hx hb dL_law_544 (by decide) ?_
  refine lv_iadd hx hb dL_law_545 ?_
  refine va_sld hx hb hX hbl hbA h.2.2 (lk_ix (j := 1) (by decide) hk hL) dL_law_546 ?_
  refine lv_aload_n hx hb dL_law_547 rfl (lv_at hl 0 rfl) ?_
  refine lv_iload_n hx hb dL_law_548 rfl (lv_at hl 3 rfl) ?_
  refine lv_iconst (v := (2 : Int32)) hx hb dL_law_549 (by decide) ?_
  refine lv_iadd hx hb dL_law_550 ?_
  refine va_sld hx hb hX hbl hbA h.2.2 (lk_ix (j := 2) (by decide) hk hL) dL_law_551 ?_
  refine lk_cI F h (va_runV (As := [.int ((xs (nI k + (1 : Int32)).toNatClampNeg)), .int ((xs (nI k + (2 : Int32)).toNatClampNeg))]) (rest := []) ⟨hx, hb, hml, hown, hts⟩ (ad_X8_back (D := D) (cy := cy) l F.1 ((xs (nI k + (1 : Int32)).toNatClampNeg)) ((xs (nI k + (2 : Int32)).toNatClampNeg)) σc _ (ps_back ((xs (nI k + (1 : Int32)).toNatClampNeg)) ((xs (nI k + (2 : Int32)).toNatClampNeg)) σc σm R)) (cwV 2 hts gL_law_X8_back rfl rfl rfl nd_X8_back ⟨Nat.le_of_ble_eq_true rfl, Nat.le_of_ble_eq_true rfl⟩) (lk_pc F h [.int ((xs (nI k + (1 : Int32)).toNatClampNeg)), .int ((xs (nI k + (2 : Int32)).toNatClampNeg))]) rfl rfl hl.1 rfl (lv_room (Nat.le_of_ble_eq_true rfl)) dL_law_552 hcl) (fun r1 σc1 H locs hq h => ?_)
  refine lv_aload_n hx hb dL_law_555 rfl (lv_at hl 2 rfl) ?_
  refine lv_aload_n hx hb dL_law_556 rfl (lv_at hl 0 rfl) ?_
  refine lv_iload_n hx hb dL_law_557 rfl (lv_at hl 3 rfl) ?_
  refine lv_iconst (v := (1 : Int32)) hx hb dL_law_558 (by decide) ?_
  refine lv_iadd hx hb dL_law_559 ?_
  refine va_sld hx hb hX hbl hbA h.2.2 (lk_ix (j := 1) (by decide) hk hL) dL_law_560 ?_
  refine lv_aload_n hx hb dL_law_561 rfl (lv_at hl 0 rfl) ?_
  refine lv_iload_n hx hb dL_law_562 rfl (lv_at hl 3 rfl) ?_
  refine lv_iconst (v := (2 : Int32)) hx hb dL_law_563 (by decide) ?_
  refine lv_iadd hx hb dL_law_564 ?_
  refine va_sld hx hb hX hbl hbA h.2.2 (lk_ix (j := 2) (by decide) hk hL) dL_law_565 ?_
  refine lk_mI F h (va_runV (As := [.int ((xs (nI k + (1 : Int32)).toNatClampNeg)), .int ((xs (nI k + (2 : Int32)).toNatClampNeg))]) (rest := [.int r1]) ⟨hx, hb, hml, hown, hts⟩ (ad_X9_back (D := D) (cy := cy) l F.2.1 ((xs (nI k + (1 : Int32)).toNatClampNeg)) ((xs (nI k + (2 : Int32)).toNatClampNeg)) σm _ hq) (cwV 2 hts gL_law_X9_back rfl rfl rfl nd_X9_back ⟨Nat.le_of_ble_eq_true rfl, Nat.le_of_ble_eq_true rfl⟩) (lk_pm F h [.int ((xs (nI k + (1 : Int32)).toNatClampNeg)), .int ((xs (nI k + (2 : Int32)).toNatClampNeg))]) rfl rfl hl.1 rfl (lv_room (Nat.le_of_ble_eq_true rfl)) dL_law_566 hcl) (fun r2 σm1 H locs hq h => ?_)
  exact lv_icmp_eq (tgt := 1111) hx hb dL_law_569 (by decide) (fun _ => K _ _ _ _ h hq.2) (fun w => absurd hq.1 w)
set_option maxHeartbeats 1000000 in
theorem lc_14 {p : Program} {l : Launch} {e : Env} {s : State} {m : MethodId} {below : List Frame} {meth : Method} {c : Code} {H : Heap} {locs : List Loc} {cells slots : Nat} {Q : State → Prop} {ls : Array Slot} {D : va_G} {cy : Nat → ClassId} {adc adm : Nat → Nat} {σc σm : hh_S} {b L k : Nat} {xs : Nat → Int32} (B : lk_B p s m meth c b L xs) (F : lk_F D cy adc adm s) (hk : k + 5 ≤ L) (hcl : cells ≤ 600000 ∧ slots ≤ 7302250) (h : lk_T D cy adc adm s σc σm H locs) (R : RR_s σc σm) (hl : lv_has ls 4 [(0, .ref b), (1, .ref (adc 0)), (2, .ref (adm 0)), (3, .int (nI k))]) (K : ∀ (u v : hh_S) (H1 : Heap) (locs1 : List Loc), lk_T D cy adc adm s u v H1 locs1 → RR_s u v → W p l e room_1 s m #[Value.ref b] below meth c H1 locs1 cells slots Q (F0 m 1111 ls [])) : W p l e room_1 s m #[Value.ref b] below meth c H locs cells slots Q (F0 m 574 ls []) := by
  obtain ⟨hx, hb, hml, hown, hts, hX, hbl, hL⟩ := B
  have hbA : ¬ (fun q : Nat => s.heap.size ≤ q) b := Nat.not_le.mpr hbl
  refine lv_aload_n hx hb dL_law_574 rfl (lv_at hl 1 rfl) ?_
  refine lv_aload_n hx hb dL_law_575 rfl (lv_at hl 0 rfl) ?_
  refine lv_iload_n hx hb dL_law_576 rfl (lv_at hl 3 rfl) ?_
  refine lv_iconst (v := (1 : Int32)) hx hb dL_law_577 (by decide) ?_
  refine lv_iadd hx hb dL_law_578 ?_
  refine va_sld hx hb hX hbl hbA h.2.2 (lk_ix (j := 1) (by decide) hk hL) dL_law_579 ?_
  refine lv_aload_n hx hb dL_law_580 rfl (lv_at hl 0 rfl) ?_
  refine lv_iload_n hx hb dL_law_581 rfl (lv_at hl 3 rfl) ?_
  refine lv_iconst (v := (2 : Int32)) hx hb dL_law_582 (by decide) ?_
  refine lv_iadd hx hb dL_law_583 ?_
  refine va_sld hx hb hX hbl hbA h.2.2 (lk_ix (j := 2) (by decide) hk hL) dL_law_584 ?_
  refine lk_cI F h (va_runV (As := [.int ((xs (nI k + (1 : Int32)).toNatClampNeg)), .int ((xs (nI k + (2 : Int32)).toNatClampNeg))]) (rest := []) ⟨hx, hb, hml, hown, hts⟩ (ad_X8_said (D := D) (cy := cy) l F.1 ((xs (nI k + (1 : Int32)).toNatClampNeg)) ((xs (nI k + (2 : Int32)).toNatClampNeg)) σc _ (ps_said ((xs (nI k + (1 : Int32)).toNatClampNeg)) ((xs (nI k + (2 : Int32)).toNatClampNeg)) σc σm R)) (cwV 2 hts gL_law_X8_said rfl rfl rfl nd_X8_said ⟨Nat.le_of_ble_eq_true rfl, Nat.le_of_ble_eq_true rfl⟩) (lk_pc F h [.int ((xs (nI k + (1 : Int32)).toNatClampNeg)), .int ((xs (nI k + (2 : Int32)).toNatClampNeg))]) rfl rfl hl.1 rfl (lv_room (Nat.le_of_ble_eq_true rfl)) dL_law_585 hcl) (fun r1 σc1 H locs hq h => ?_)
  refine lv_aload_n hx hb dL_law_588 rfl (lv_at hl 2 rfl) ?_
  refine lv_aload_n hx hb dL_law_589 rfl (lv_at hl 0 rfl) ?_
  refine lv_iload_n hx hb dL_law_590 rfl (lv_at hl 3 rfl) ?_
  refine lv_iconst (v := (1 : Int32)) hx hb dL_law_591 (by decide) ?_
  refine lv_iadd hx hb dL_law_592 ?_
  refine va_sld hx hb hX hbl hbA h.2.2 (lk_ix (j := 1) (by decide) hk hL) dL_law_593 ?_
  refine lv_aload_n hx hb dL_law_594 rfl (lv_at hl 0 rfl) ?_
  refine lv_iload_n hx hb dL_law_595 rfl (lv_at hl 3 rfl) ?_
  refine lv_iconst (v := (2 : Int32)) hx hb dL_law_596 (by decide) ?_
  refine lv_iadd hx hb dL_law_597 ?_
  refine va_sld hx hb hX hbl hbA h.2.2 (lk_ix (j := 2) (by decide) hk hL) dL_law_598 ?_
  refine lk_mI F h (va_runV (As := [.int ((xs (nI k + (1 : Int32)).toNatClampNeg)), .int ((xs (nI k + (2 : Int32)).toNatClampNeg))]) (rest := [.int r1]) ⟨hx, hb, hml, hown, hts⟩ (ad_X9_said (D := D) (cy := cy) l F.2.1 ((xs (nI k + (1 : Int32)).toNatClampNeg)) ((xs (nI k + (2 : Int32)).toNatClampNeg)) σm _ hq) (cwV 2 hts gL_law_X9_said rfl rfl rfl nd_X9_said ⟨Nat.le_of_ble_eq_true rfl, Nat.le_of_ble_eq_true rfl⟩) (lk_pm F h [.int ((xs (nI k + (1 : Int32)).toNatClampNeg)), .int ((xs (nI k + (2 : Int32)).toNatClampNeg))]) rfl rfl hl.1 rfl (lv_room (Nat.le_of_ble_eq_true rfl)) dL_law_599 hcl) (fun r2 σm1 H locs hq h => ?_)
  exact lv_icmp_eq (tgt := 1111) hx hb dL_law_602 (by decide) (fun _ => K _ _ _ _ h hq.2) (fun w => absurd hq.1 w)
set_option maxHeartbeats 1000000 in
theorem lc_15 {p : Program} {l : Launch} {e : Env} {s : State} {m : MethodId} {below : List Frame} {meth : Method} {c : Code} {H : Heap} {locs : List Loc} {cells slots : Nat} {Q : State → Prop} {ls : Array Slot} {D : va_G} {cy : Nat → ClassId} {adc adm : Nat → Nat} {σc σm : hh_S} {b L k : Nat} {xs : Nat → Int32} (B : lk_B p s m meth c b L xs) (F : lk_F D cy adc adm s) (hk : k + 5 ≤ L) (hcl : cells ≤ 600000 ∧ slots ≤ 7302250) (h : lk_T D cy adc adm s σc σm H locs) (R : RR_s σc σm) (hl : lv_has ls 4 [(0, .ref b), (1, .ref (adc 0)), (2, .ref (adm 0)), (3, .int (nI k))]) (K : ∀ (u v : hh_S) (H1 : Heap) (locs1 : List Loc), lk_T D cy adc adm s u v H1 locs1 → RR_s u v → W p l e room_1 s m #[Value.ref b] below meth c H1 locs1 cells slots Q (F0 m 1111 ls [])) : W p l e room_1 s m #[Value.ref b] below meth c H locs cells slots Q (F0 m 607 ls []) := by
  obtain ⟨hx, hb, hml, hown, hts, hX, hbl, hL⟩ := B
  have hbA : ¬ (fun q : Nat => s.heap.size ≤ q) b := Nat.not_le.mpr hbl
  refine lv_aload_n hx hb dL_law_607 rfl (lv_at hl 1 rfl) ?_
  refine lv_aload_n hx hb dL_law_608 rfl (lv_at hl 0 rfl) ?_
  refine lv_iload_n hx hb dL_law_609 rfl (lv_at hl 3 rfl) ?_
  refine lv_iconst (v := (1 : Int32)) hx hb dL_law_610 (by decide) ?_
  refine lv_iadd hx hb dL_law_611 ?_
  refine va_sld hx hb hX hbl hbA h.2.2 (lk_ix (j := 1) (by decide) hk hL) dL_law_612 ?_
  refine lv_aload_n hx hb dL_law_613 rfl (lv_at hl 0 rfl) ?_
  refine lv_iload_n hx hb dL_law_614 rfl (lv_at hl 3 rfl) ?_
  refine lv_iconst (v := (2 : Int32)) hx hb dL_law_615 (by decide) ?_
  refine lv_iadd hx hb dL_law_616 ?_
  refine va_sld hx hb hX hbl hbA h.2.2 (lk_ix (j := 2) (by decide) hk hL) dL_law_617 ?_
  refine lk_cI F h (va_runV (As := [.int ((xs (nI k + (1 : Int32)).toNatClampNeg)), .int ((xs (nI k + (2 : Int32)).toNatClampNeg))]) (rest := []) ⟨hx, hb, hml, hown, hts⟩ (ad_X8_set (D := D) (cy := cy) l F.1 ((xs (nI k + (1 : Int32)).toNatClampNeg)) ((xs (nI k + (2 : Int32)).toNatClampNeg)) σc _ (ps_set ((xs (nI k + (1 : Int32)).toNatClampNeg)) ((xs (nI k + (2 : Int32)).toNatClampNeg)) σc σm R)) (cwV 2 hts gL_law_X8_set rfl rfl rfl nd_X8_set ⟨Nat.le_of_ble_eq_true rfl, Nat.le_of_ble_eq_true rfl⟩) (lk_ps F h [.int ((xs (nI k + (1 : Int32)).toNatClampNeg)), .int ((xs (nI k + (2 : Int32)).toNatClampNeg))]) rfl rfl hl.1 rfl (lv_room (Nat.le_of_ble_eq_true rfl)) dL_law_618 hcl) (fun r1 σc1 H locs hq h => ?_)
  refine lv_aload_n hx hb dL_law_621 rfl (lv_at hl 2 rfl) ?_
  refine lv_aload_n hx hb dL_law_622 rfl (lv_at hl 0 rfl) ?_
  refine lv_iload_n hx hb dL_law_623 rfl (lv_at hl 3 rfl) ?_
  refine lv_iconst (v := (1 : Int32)) hx hb dL_law_624 (by decide) ?_
  refine lv_iadd hx hb dL_law_625 ?_
  refine va_sld hx hb hX hbl hbA h.2.2 (lk_ix (j := 1) (by decide) hk hL) dL_law_626 ?_
  refine lv_aload_n hx hb dL_law_627 rfl (lv_at hl 0 rfl) ?_
  refine lv_iload_n hx hb dL_law_628 rfl (lv_at hl 3 rfl) ?_
  refine lv_iconst (v := (2 : Int32)) hx hb dL_law_629 (by decide) ?_
  refine lv_iadd hx hb dL_law_630 ?_
  refine va_sld hx hb hX hbl hbA h.2.2 (lk_ix (j := 2) (by decide) hk hL) dL_law_631 ?_
  refine lk_mI F h (va_runV (As := [.int ((xs (nI k + (1 : Int32)).toNatClampNeg)), .int ((xs (nI k + (2 : Int32)).toNatClampNeg))]) (rest := [.int r1]) ⟨hx, hb, hml, hown, hts⟩ (ad_X9_set (D := D) (cy := cy) l F.2.1 ((xs (nI k + (1 : Int32)).toNatClampNeg)) ((xs (nI k + (2 : Int32)).toNatClampNeg)) σm _ hq) (cwV 2 hts gL_law_X9_set rfl rfl rfl nd_X9_set ⟨Nat.le_of_ble_eq_true rfl, Nat.le_of_ble_eq_true rfl⟩) (lk_pm F h [.int ((xs (nI k + (1 : Int32)).toNatClampNeg)), .int ((xs (nI k + (2 : Int32)).toNatClampNeg))]) rfl rfl hl.1 rfl (lv_room (Nat.le_of_ble_eq_true rfl)) dL_law_632 hcl) (fun r2 σm1 H locs hq h => ?_)
  exact lv_icmp_eq (tgt := 1111) hx hb dL_law_635 (by decide) (fun _ => K _ _ _ _ h hq.2) (fun w => absurd hq.1 w)
