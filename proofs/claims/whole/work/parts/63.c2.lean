set_option maxHeartbeats 1000000 in
theorem lc_16 {p : Program} {l : Launch} {e : Env} {s : State} {m : MethodId} {below : List Frame} {meth : Method} {c : Code} {H : Heap} {locs : List Loc} {cells slots : Nat} {Q : State → Prop} {ls : Array Slot} {D : va_G} {cy : Nat → ClassId} {adc adm : Nat → Nat} {σc σm : hh_S} {b L k : Nat} {xs : Nat → Int32} (B : lk_B p s m meth c b L xs) (F : lk_F D cy adc adm s) (hk : k + 5 ≤ L) (hcl : cells ≤ 600000 ∧ slots ≤ 7302250) (h : lk_T D cy adc adm s σc σm H locs) (R : RR_s σc σm) (hl : lv_has ls 4 [(0, .ref b), (1, .ref (adc 0)), (2, .ref (adm 0)), (3, .int (nI k))]) (K : ∀ (u v : hh_S) (H1 : Heap) (locs1 : List Loc), lk_T D cy adc adm s u v H1 locs1 → RR_s u v → W p l e room_1 s m #[Value.ref b] below meth c H1 locs1 cells slots Q (F0 m 1111 ls [])) : W p l e room_1 s m #[Value.ref b] below meth c H locs cells slots Q (F0 m 640 ls []) := by
  obtain ⟨hx, hb, hml, hown, hts, hX, hbl, hL⟩ := B
  have hbA : ¬ (fun q : Nat => s.heap.size ≤ q) b := Nat.not_le.mpr hbl
  refine lv_aload_n hx hb dL_law_640 rfl (lv_at hl 1 rfl) ?_
  refine lk_cI F h (va_runV (As := []) (rest := []) ⟨hx, hb, hml, hown, hts⟩ (ad_X8_join (D := D) (cy := cy) l F.1 σc _ (ps_join σc σm R)) (cwV 0 hts gL_law_X8_join rfl rfl rfl nd_X8_join ⟨Nat.le_of_ble_eq_true rfl, Nat.le_of_ble_eq_true rfl⟩) (lk_pc F h []) rfl rfl hl.1 rfl (lv_room (Nat.le_of_ble_eq_true rfl)) dL_law_641 hcl) (fun r1 σc1 H locs hq h => ?_)
  refine lv_aload_n hx hb dL_law_644 rfl (lv_at hl 2 rfl) ?_
  refine lk_mI F h (va_runV (As := []) (rest := [.int r1]) ⟨hx, hb, hml, hown, hts⟩ (ad_X9_join (D := D) (cy := cy) l F.2.1 σm _ hq) (cwV 0 hts gL_law_X9_join rfl rfl rfl nd_X9_join ⟨Nat.le_of_ble_eq_true rfl, Nat.le_of_ble_eq_true rfl⟩) (lk_pm F h []) rfl rfl hl.1 rfl (lv_room (Nat.le_of_ble_eq_true rfl)) dL_law_645 hcl) (fun r2 σm1 H locs hq h => ?_)
  exact lv_icmp_eq (tgt := 1111) hx hb dL_law_648 (by decide) (fun _ => K _ _ _ _ h hq.2) (fun w => absurd hq.1 w)
set_option maxHeartbeats 1000000 in
theorem lc_17 {p : Program} {l : Launch} {e : Env} {s : State} {m : MethodId} {below : List Frame} {meth : Method} {c : Code} {H : Heap} {locs : List Loc} {cells slots : Nat} {Q : State → Prop} {ls : Array Slot} {D : va_G} {cy : Nat → ClassId} {adc adm : Nat → Nat} {σc σm : hh_S} {b L k : Nat} {xs : Nat → Int32} (B : lk_B p s m meth c b L xs) (F : lk_F D cy adc adm s) (hk : k + 5 ≤ L) (hcl : cells ≤ 600000 ∧ slots ≤ 7302250) (h : lk_T D cy adc adm s σc σm H locs) (R : RR_s σc σm) (hl : lv_has ls 4 [(0, .ref b), (1, .ref (adc 0)), (2, .ref (adm 0)), (3, .int (nI k))]) (K : ∀ (u v : hh_S) (H1 : Heap) (locs1 : List Loc), lk_T D cy adc adm s u v H1 locs1 → RR_s u v → W p l e room_1 s m #[Value.ref b] below meth c H1 locs1 cells slots Q (F0 m 1111 ls [])) : W p l e room_1 s m #[Value.ref b] below meth c H locs cells slots Q (F0 m 653 ls []) := by
  obtain ⟨hx, hb, hml, hown, hts, hX, hbl, hL⟩ := B
  have hbA : ¬ (fun q : Nat => s.heap.size ≤ q) b := Nat.not_le.mpr hbl
  refine lv_aload_n hx hb dL_law_653 rfl (lv_at hl 1 rfl) ?_
  refine lv_aload_n hx hb dL_law_654 rfl (lv_at hl 0 rfl) ?_
  refine lv_iload_n hx hb dL_law_655 rfl (lv_at hl 3 rfl) ?_
  refine lv_iconst (v := (1 : Int32)) hx hb dL_law_656 (by decide) ?_
  refine lv_iadd hx hb dL_law_657 ?_
  refine va_sld hx hb hX hbl hbA h.2.2 (lk_ix (j := 1) (by decide) hk hL) dL_law_658 ?_
  refine lv_aload_n hx hb dL_law_659 rfl (lv_at hl 0 rfl) ?_
  refine lv_iload_n hx hb dL_law_660 rfl (lv_at hl 3 rfl) ?_
  refine lv_iconst (v := (2 : Int32)) hx hb dL_law_661 (by decide) ?_
  refine lv_iadd hx hb dL_law_662 ?_
  refine va_sld hx hb hX hbl hbA h.2.2 (lk_ix (j := 2) (by decide) hk hL) dL_law_663 ?_
  refine lk_cI F h (va_runV (As := [.int ((xs (nI k + (1 : Int32)).toNatClampNeg)), .int ((xs (nI k + (2 : Int32)).toNatClampNeg))]) (rest := []) ⟨hx, hb, hml, hown, hts⟩ (ad_X8_share (D := D) (cy := cy) l F.1 ((xs (nI k + (1 : Int32)).toNatClampNeg)) ((xs (nI k + (2 : Int32)).toNatClampNeg)) σc _ (ps_share ((xs (nI k + (1 : Int32)).toNatClampNeg)) ((xs (nI k + (2 : Int32)).toNatClampNeg)) σc σm R)) (cwV 2 hts gL_law_X8_share rfl rfl rfl nd_X8_share ⟨Nat.le_of_ble_eq_true rfl, Nat.le_of_ble_eq_true rfl⟩) (lk_pc F h [.int ((xs (nI k + (1 : Int32)).toNatClampNeg)), .int ((xs (nI k + (2 : Int32)).toNatClampNeg))]) rfl rfl hl.1 rfl (lv_room (Nat.le_of_ble_eq_true rfl)) dL_law_664 hcl) (fun r1 σc1 H locs hq h => ?_)
  refine lv_aload_n hx hb dL_law_667 rfl (lv_at hl 2 rfl) ?_
  refine lv_aload_n hx hb dL_law_668 rfl (lv_at hl 0 rfl) ?_
  refine lv_iload_n hx hb dL_law_669 rfl (lv_at hl 3 rfl) ?_
  refine lv_iconst (v := (1 : Int32)) hx hb dL_law_670 (by decide) ?_
  refine lv_iadd hx hb dL_law_671 ?_
  refine va_sld hx hb hX hbl hbA h.2.2 (lk_ix (j := 1) (by decide) hk hL) dL_law_672 ?_
  refine lv_aload_n hx hb dL_law_673 rfl (lv_at hl 0 rfl) ?_
  refine lv_iload_n hx hb dL_law_674 rfl (lv_at hl 3 rfl) ?_
  refine lv_iconst (v := (2 : Int32)) hx hb dL_law_675 (by decide) ?_
  refine lv_iadd hx hb dL_law_676 ?_
  refine va_sld hx hb hX hbl hbA h.2.2 (lk_ix (j := 2) (by decide) hk hL) dL_law_677 ?_
  refine lk_mI F h (va_runV (As := [.int ((xs (nI k + (1 : Int32)).toNatClampNeg)), .int ((xs (nI k + (2 : Int32)).toNatClampNeg))]) (rest := [.int r1]) ⟨hx, hb, hml, hown, hts⟩ (ad_X9_share (D := D) (cy := cy) l F.2.1 ((xs (nI k + (1 : Int32)).toNatClampNeg)) ((xs (nI k + (2 : Int32)).toNatClampNeg)) σm _ hq) (cwV 2 hts gL_law_X9_share rfl rfl rfl nd_X9_share ⟨Nat.le_of_ble_eq_true rfl, Nat.le_of_ble_eq_true rfl⟩) (lk_pm F h [.int ((xs (nI k + (1 : Int32)).toNatClampNeg)), .int ((xs (nI k + (2 : Int32)).toNatClampNeg))]) rfl rfl hl.1 rfl (lv_room (Nat.le_of_ble_eq_true rfl)) dL_law_678 hcl) (fun r2 σm1 H locs hq h => ?_)
  exact lv_icmp_eq (tgt := 1111) hx hb dL_law_681 (by decide) (fun _ => K _ _ _ _ h hq.2) (fun w => absurd hq.1 w)
set_option maxHeartbeats 1000000 in
theorem lc_18 {p : Program} {l : Launch} {e : Env} {s : State} {m : MethodId} {below : List Frame} {meth : Method} {c : Code} {H : Heap} {locs : List Loc} {cells slots : Nat} {Q : State → Prop} {ls : Array Slot} {D : va_G} {cy : Nat → ClassId} {adc adm : Nat → Nat} {σc σm : hh_S} {b L k : Nat} {xs : Nat → Int32} (B : lk_B p s m meth c b L xs) (F : lk_F D cy adc adm s) (hk : k + 5 ≤ L) (hcl : cells ≤ 600000 ∧ slots ≤ 7302250) (h : lk_T D cy adc adm s σc σm H locs) (R : RR_s σc σm) (hl : lv_has ls 4 [(0, .ref b), (1, .ref (adc 0)), (2, .ref (adm 0)), (3, .int (nI k))]) (K : ∀ (u v : hh_S) (H1 : Heap) (locs1 : List Loc), lk_T D cy adc adm s u v H1 locs1 → RR_s u v → W p l e room_1 s m #[Value.ref b] below meth c H1 locs1 cells slots Q (F0 m 1111 ls [])) : W p l e room_1 s m #[Value.ref b] below meth c H locs cells slots Q (F0 m 686 ls []) := by
  obtain ⟨hx, hb, hml, hown, hts, hX, hbl, hL⟩ := B
  have hbA : ¬ (fun q : Nat => s.heap.size ≤ q) b := Nat.not_le.mpr hbl
  refine lv_aload_n hx hb dL_law_686 rfl (lv_at hl 1 rfl) ?_
  refine lv_aload_n hx hb dL_law_687 rfl (lv_at hl 0 rfl) ?_
  refine lv_iload_n hx hb dL_law_688 rfl (lv_at hl 3 rfl) ?_
  refine lv_iconst (v := (1 : Int32)) hx hb dL_law_689 (by decide) ?_
  refine lv_iadd hx hb dL_law_690 ?_
  refine va_sld hx hb hX hbl hbA h.2.2 (lk_ix (j := 1) (by decide) hk hL) dL_law_691 ?_
  refine lv_aload_n hx hb dL_law_692 rfl (lv_at hl 0 rfl) ?_
  refine lv_iload_n hx hb dL_law_693 rfl (lv_at hl 3 rfl) ?_
  refine lv_iconst (v := (2 : Int32)) hx hb dL_law_694 (by decide) ?_
  refine lv_iadd hx hb dL_law_695 ?_
  refine va_sld hx hb hX hbl hbA h.2.2 (lk_ix (j := 2) (by decide) hk hL) dL_law_696 ?_
  refine lv_aload_n hx hb dL_law_697 rfl (lv_at hl 0 rfl) ?_
  refine lv_iload_n hx hb dL_law_698 rfl (lv_at hl 3 rfl) ?_
  refine lv_iconst (v := (3 : Int32)) hx hb dL_law_699 (by decide) ?_
  refine lv_iadd hx hb dL_law_700 ?_
  refine va_sld hx hb hX hbl hbA h.2.2 (lk_ix (j := 3) (by decide) hk hL) dL_law_701 ?_
  refine lv_aload_n hx hb dL_law_702 rfl (lv_at hl 0 rfl) ?_
  refine lv_iload_n hx hb dL_law_703 rfl (lv_at hl 3 rfl) ?_
  refine lv_iconst (v := (4 : Int32)) hx hb dL_law_704 (by decide) ?_
  refine lv_iadd hx hb dL_law_705 ?_
  refine va_sld hx hb hX hbl hbA h.2.2 (lk_ix (j := 4) (by decide) hk hL) dL_law_706 ?_
  refine lk_cI F h (va_runV (As := [.int ((xs (nI k + (1 : Int32)).toNatClampNeg)), .int ((xs (nI k + (2 : Int32)).toNatClampNeg)), .int ((xs (nI k + (3 : Int32)).toNatClampNeg)), .int ((xs (nI k + (4 : Int32)).toNatClampNeg))]) (rest := []) ⟨hx, hb, hml, hown, hts⟩ (ad_X8_table (D := D) (cy := cy) l F.1 ((xs (nI k + (1 : Int32)).toNatClampNeg)) ((xs (nI k + (2 : Int32)).toNatClampNeg)) ((xs (nI k + (3 : Int32)).toNatClampNeg)) ((xs (nI k + (4 : Int32)).toNatClampNeg)) σc _ (ps_table ((xs (nI k + (1 : Int32)).toNatClampNeg)) ((xs (nI k + (2 : Int32)).toNatClampNeg)) ((xs (nI k + (3 : Int32)).toNatClampNeg)) ((xs (nI k + (4 : Int32)).toNatClampNeg)) σc σm R)) (cwV 4 hts gL_law_X8_table rfl rfl rfl nd_X8_table ⟨Nat.le_of_ble_eq_true rfl, Nat.le_of_ble_eq_true rfl⟩) (lk_pc F h [.int ((xs (nI k + (1 : Int32)).toNatClampNeg)), .int ((xs (nI k + (2 : Int32)).toNatClampNeg)), .int ((xs (nI k + (3 : Int32)).toNatClampNeg)), .int ((xs (nI k + (4 : Int32)).toNatClampNeg))]) rfl rfl hl.1 rfl (lv_room (Nat.le_of_ble_eq_true rfl)) dL_law_707 hcl) (fun r1 σc1 H locs hq h => ?_)
  refine lv_aload_n hx hb dL_law_710 rfl (lv_at hl 2 rfl) ?_
  refine lv_aload_n hx hb dL_law_711 rfl (lv_at hl 0 rfl) ?_
  refine lv_iload_n hx hb dL_law_712 rfl (lv_at hl 3 rfl) ?_
  refine lv_iconst (v := (1 : Int32)) hx hb dL_law_713 (by decide) ?_
  refine lv_iadd hx hb dL_law_714 ?_
  refine va_sld hx hb hX hbl hbA h.2.2 (lk_ix (j := 1) (by decide) hk hL) dL_law_715 ?_
  refine lv_aload_n hx hb dL_law_716 rfl (lv_at hl 0 rfl) ?_
  refine lv_iload_n hx hb dL_law_717 rfl (lv_at hl 3 rfl) ?_
  refine lv_iconst (v := (2 : Int32)) hx hb dL_law_718 (by decide) ?_
  refine lv_iadd hx hb dL_law_719 ?_
  refine va_sld hx hb hX hbl hbA h.2.2 (lk_ix (j := 2) (by decide) hk hL) dL_law_720 ?_
  refine lv_aload_n hx hb dL_law_721 rfl (lv_at hl 0 rfl) ?_
  refine lv_iload_n hx hb dL_law_722 rfl (lv_at hl 3 rfl) ?_
  refine lv_iconst (v := (3 : Int32)) hx hb dL_law_723 (by decide) ?_
  refine lv_iadd hx hb dL_law_724 ?_
  refine va_sld hx hb hX hbl hbA h.2.2 (lk_ix (j := 3) (by decide) hk hL) dL_law_725 ?_
  refine lv_aload_n hx hb dL_law_726 rfl (lv_at hl 0 rfl) ?_
  refine lv_iload_n hx hb dL_law_727 rfl (lv_at hl 3 rfl) ?_
  refine lv_iconst (v := (4 : Int32)) hx hb dL_law_728 (by decide) ?_
  refine lv_iadd hx hb dL_law_729 ?_
  refine va_sld hx hb hX hbl hbA h.2.2 (lk_ix (j := 4) (by decide) hk hL) dL_law_730 ?_
  refine lk_mI F h (va_runV (As := [.int ((xs (nI k + (1 : Int32)).toNatClampNeg)), .int ((xs (nI k + (2 : Int32)).toNatClampNeg)), .int ((xs (nI k + (3 : Int32)).toNatClampNeg)), .int ((xs (nI k + (4 : Int32)).toNatClampNeg))]) (rest := [.int r1]) ⟨hx, hb, hml, hown, hts⟩ (ad_X9_table (D := D) (cy := cy) l F.2.1 ((xs (nI k + (1 : Int32)).toNatClampNeg)) ((xs (nI k + (2 : Int32)).toNatClampNeg)) ((xs (nI k + (3 : Int32)).toNatClampNeg)) ((xs (nI k + (4 : Int32)).toNatClampNeg)) σm _ hq) (cwV 4 hts gL_law_X9_table rfl rfl rfl nd_X9_table ⟨Nat.le_of_ble_eq_true rfl, Nat.le_of_ble_eq_true rfl⟩) (lk_pm F h [.int ((xs (nI k + (1 : Int32)).toNatClampNeg)), .int ((xs (nI k + (2 : Int32)).toNatClampNeg)), .int ((xs (nI k + (3 : Int32)).toNatClampNeg)), .int ((xs (nI k + (4 : Int32)).toNatClampNeg))]) rfl rfl hl.1 rfl (lv_room (Nat.le_of_ble_eq_true rfl)) dL_law_731 hcl) (fun r2 σm1 H locs hq h => ?_)
  exact lv_icmp_eq (tgt := 1111) hx hb dL_law_734 (by decide) (fun _ => K _ _ _ _ h hq.2) (fun w => absurd hq.1 w)
set_option maxHeartbeats 1000000 in
theorem lc_19 {p : Program} {l : Launch} {e : Env} {s : State} {m : MethodId} {below : List Frame} {meth : Method} {c : Code} {H : Heap} {locs : List Loc} {cells slots : Nat} {Q : State → Prop} {ls : Array Slot} {D : va_G} {cy : Nat → ClassId} {adc adm : Nat → Nat} {σc σm : hh_S} {b L k : Nat} {xs : Nat → Int32} (B : lk_B p s m meth c b L xs) (F : lk_F D cy adc adm s) (hk : k + 5 ≤ L) (hcl : cells ≤ 600000 ∧ slots ≤ 7302250) (h : lk_T D cy adc adm s σc σm H locs) (R : RR_s σc σm) (hl : lv_has ls 4 [(0, .ref b), (1, .ref (adc 0)), (2, .ref (adm 0)), (3, .int (nI k))]) (K : ∀ (u v : hh_S) (H1 : Heap) (locs1 : List Loc), lk_T D cy adc adm s u v H1 locs1 → RR_s u v → W p l e room_1 s m #[Value.ref b] below meth c H1 locs1 cells slots Q (F0 m 1111 ls [])) : W p l e room_1 s m #[Value.ref b] below meth c H locs cells slots Q (F0 m 739 ls []) := by
  obtain ⟨hx, hb, hml, hown, hts, hX, hbl, hL⟩ := B
  have hbA : ¬ (fun q : Nat => s.heap.size ≤ q) b := Nat.not_le.mpr hbl
  refine lv_aload_n hx hb dL_law_739 rfl (lv_at hl 1 rfl) ?_
  refine lv_aload_n hx hb dL_law_740 rfl (lv_at hl 0 rfl) ?_
  refine lv_iload_n hx hb dL_law_741 rfl (lv_at hl 3 rfl) ?_
  refine lv_iconst (v := (1 : Int32)) hx hb dL_law_742 (by decide) ?_
  refine lv_iadd hx hb dL_law_743 ?_
  refine va_sld hx hb hX hbl hbA h.2.2 (lk_ix (j := 1) (by decide) hk hL) dL_law_744 ?_
  refine lk_cI F h (va_runV (As := [.int ((xs (nI k + (1 : Int32)).toNatClampNeg))]) (rest := []) ⟨hx, hb, hml, hown, hts⟩ (ad_X8_next (D := D) (cy := cy) l F.1 ((xs (nI k + (1 : Int32)).toNatClampNeg)) σc _ (ps_next ((xs (nI k + (1 : Int32)).toNatClampNeg)) σc σm R)) (cwV 1 hts gL_law_X8_next rfl rfl rfl nd_X8_next ⟨Nat.le_of_ble_eq_true rfl, Nat.le_of_ble_eq_true rfl⟩) (lk_pc F h [.int ((xs (nI k + (1 : Int32)).toNatClampNeg))]) rfl rfl hl.1 rfl (lv_room (Nat.le_of_ble_eq_true rfl)) dL_law_745 hcl) (fun r1 σc1 H locs hq h => ?_)
  refine lv_aload_n hx hb dL_law_748 rfl (lv_at hl 2 rfl) ?_
  refine lv_aload_n hx hb dL_law_749 rfl (lv_at hl 0 rfl) ?_
  refine lv_iload_n hx hb dL_law_750 rfl (lv_at hl 3 rfl) ?_
  refine lv_iconst (v := (1 : Int32)) hx hb dL_law_751 (by decide) ?_
  refine lv_iadd hx hb dL_law_752 ?_
  refine va_sld hx hb hX hbl hbA h.2.2 (lk_ix (j := 1) (by decide) hk hL) dL_law_753 ?_
  refine lk_mI F h (va_runV (As := [.int ((xs (nI k + (1 : Int32)).toNatClampNeg))]) (rest := [.int r1]) ⟨hx, hb, hml, hown, hts⟩ (ad_X9_next (D := D) (cy := cy) l F.2.1 ((xs (nI k + (1 : Int32)).toNatClampNeg)) σm _ hq) (cwV 1 hts gL_law_X9_next rfl rfl rfl nd_X9_next ⟨Nat.le_of_ble_eq_true rfl, Nat.le_of_ble_eq_true rfl⟩) (lk_pm F h [.int ((xs (nI k + (1 : Int32)).toNatClampNeg))]) rfl rfl hl.1 rfl (lv_room (Nat.le_of_ble_eq_true rfl)) dL_law_754 hcl) (fun r2 σm1 H locs hq h => ?_)
  exact lv_icmp_eq (tgt := 1111) hx hb dL_law_757 (by decide) (fun _ => K _ _ _ _ h hq.2) (fun w => absurd hq.1 w)
set_option maxHeartbeats 1000000 in
theorem lc_20 {p : Program} {l : Launch} {e : Env} {s : State} {m : MethodId} {below : List Frame} {meth : Method} {c : Code} {H : Heap} {locs : List Loc} {cells slots : Nat} {Q : State → Prop} {ls : Array Slot} {D : va_G} {cy : Nat → ClassId} {adc adm : Nat → Nat} {σc σm : hh_S} {b L k : Nat} {xs : Nat → Int32} (B : lk_B p s m meth c b L xs) (F : lk_F D cy adc adm s) (hk : k + 5 ≤ L) (hcl : cells ≤ 600000 ∧ slots ≤ 7302250) (h : lk_T D cy adc adm s σc σm H locs) (R : RR_s σc σm) (hl : lv_has ls 4 [(0, .ref b), (1, .ref (adc 0)), (2, .ref (adm 0)), (3, .int (nI k))]) (K : ∀ (u v : hh_S) (H1 : Heap) (locs1 : List Loc), lk_T D cy adc adm s u v H1 locs1 → RR_s u v → W p l e room_1 s m #[Value.ref b] below meth c H1 locs1 cells slots Q (F0 m 1111 ls [])) : W p l e room_1 s m #[Value.ref b] below meth c H locs cells slots Q (F0 m 762 ls []) := by
  obtain ⟨hx, hb, hml, hown, hts, hX, hbl, hL⟩ := B
  have hbA : ¬ (fun q : Nat => s.heap.size ≤ q) b := Nat.not_le.mpr hbl
  refine lv_aload_n hx hb dL_law_762 rfl (lv_at hl 1 rfl) ?_
  refine lv_aload_n hx hb dL_law_763 rfl (lv_at hl 0 rfl) ?_
  refine lv_iload_n hx hb dL_law_764 rfl (lv_at hl 3 rfl) ?_
  refine lv_iconst (v := (1 : Int32)) hx hb dL_law_765 (by decide) ?_
  refine lv_iadd hx hb dL_law_766 ?_
  refine va_sld hx hb hX hbl hbA h.2.2 (lk_ix (j := 1) (by decide) hk hL) dL_law_767 ?_
  refine lv_aload_n hx hb dL_law_768 rfl (lv_at hl 0 rfl) ?_
  refine lv_iload_n hx hb dL_law_769 rfl (lv_at hl 3 rfl) ?_
  refine lv_iconst (v := (2 : Int32)) hx hb dL_law_770 (by decide) ?_
  refine lv_iadd hx hb dL_law_771 ?_
  refine va_sld hx hb hX hbl hbA h.2.2 (lk_ix (j := 2) (by decide) hk hL) dL_law_772 ?_
  refine lk_cI F h (va_runV (As := [.int ((xs (nI k + (1 : Int32)).toNatClampNeg)), .int ((xs (nI k + (2 : Int32)).toNatClampNeg))]) (rest := []) ⟨hx, hb, hml, hown, hts⟩ (ad_X8_right (D := D) (cy := cy) l F.1 ((xs (nI k + (1 : Int32)).toNatClampNeg)) ((xs (nI k + (2 : Int32)).toNatClampNeg)) σc _ (ps_right ((xs (nI k + (1 : Int32)).toNatClampNeg)) ((xs (nI k + (2 : Int32)).toNatClampNeg)) σc σm R)) (cwV 2 hts gL_law_X8_right rfl rfl rfl nd_X8_right ⟨Nat.le_of_ble_eq_true rfl, Nat.le_of_ble_eq_true rfl⟩) (lk_pc F h [.int ((xs (nI k + (1 : Int32)).toNatClampNeg)), .int ((xs (nI k + (2 : Int32)).toNatClampNeg))]) rfl rfl hl.1 rfl (lv_room (Nat.le_of_ble_eq_true rfl)) dL_law_773 hcl) (fun r1 σc1 H locs hq h => ?_)
  refine lv_aload_n hx hb dL_law_776 rfl (lv_at hl 2 rfl) ?_
  refine lv_aload_n hx hb dL_law_777 rfl (lv_at hl 0 rfl) ?_
  refine lv_iload_n hx hb dL_law_778 rfl (lv_at hl 3 rfl) ?_
  refine lv_iconst (v := (1 : Int32)) hx hb dL_law_779 (by decide) ?_
  refine lv_iadd hx hb dL_law_780 ?_
  refine va_sld hx hb hX hbl hbA h.2.2 (lk_ix (j := 1) (by decide) hk hL) dL_law_781 ?_
  refine lv_aload_n hx hb dL_law_782 rfl (lv_at hl 0 rfl) ?_
  refine lv_iload_n hx hb dL_law_783 rfl (lv_at hl 3 rfl) ?_
  refine lv_iconst (v := (2 : Int32)) hx hb dL_law_784 (by decide) ?_
  refine lv_iadd hx hb dL_law_785 ?_
  refine va_sld hx hb hX hbl hbA h.2.2 (lk_ix (j := 2) (by decide) hk hL) dL_law_786 ?_
  refine lk_mI F h (va_runV (As := [.int ((xs (nI k + (1 : Int32)).toNatClampNeg)), .int ((xs (nI k + (2 : Int32)).toNatClampNeg))]) (rest := [.int r1]) ⟨hx, hb, hml, hown, hts⟩ (ad_X9_right (D := D) (cy := cy) l F.2.1 ((xs (nI k + (1 : Int32)).toNatClampNeg)) ((xs (nI k + (2 : Int32)).toNatClampNeg)) σm _ hq) (cwV 2 hts gL_law_X9_right rfl rfl rfl nd_X9_right ⟨Nat.le_of_ble_eq_true rfl, Nat.le_of_ble_eq_true rfl⟩) (lk_pm F h [.int ((xs (nI k + (1 : Int32)).toNatClampNeg)), .int ((xs (nI k + (2 : Int32)).toNatClampNeg))]) rfl rfl hl.1 rfl (lv_room (Nat.le_of_ble_eq_true rfl)) dL_law_787 hcl) (fun r2 σm1 H locs hq h => ?_)
  exact lv_icmp_eq (tgt := 1111) hx hb dL_law_790 (by decide) (fun _ => K _ _ _ _ h hq.2) (fun w => absurd hq.1 w)
set_option maxHeartbeats 1000000 in
theorem lc_21 {p : Program} {l : Launch} {e : Env} {s : State} {m : MethodId} {below : List Frame} {meth : Method} {c : Code} {H : Heap} {locs : List Loc} {cells slots : Nat} {Q : State → Prop} {ls : Array Slot} {D : va_G} {cy : Nat → ClassId} {adc adm : Nat → Nat} {σc σm : hh_S} {b L k : Nat} {xs : Nat → Int32} (B : lk_B p s m meth c b L xs) (F : lk_F D cy adc adm s) (hk : k + 5 ≤ L) (hcl : cells ≤ 600000 ∧ slots ≤ 7302250) (h : lk_T D cy adc adm s σc σm H locs) (R : RR_s σc σm) (hl : lv_has ls 4 [(0, .ref b), (1, .ref (adc 0)), (2, .ref (adm 0)), (3, .int (nI k))]) (K : ∀ (u v : hh_S) (H1 : Heap) (locs1 : List Loc), lk_T D cy adc adm s u v H1 locs1 → RR_s u v → W p l e room_1 s m #[Value.ref b] below meth c H1 locs1 cells slots Q (F0 m 1111 ls [])) : W p l e room_1 s m #[Value.ref b] below meth c H locs cells slots Q (F0 m 795 ls []) := by
  obtain ⟨hx, hb, hml, hown, hts, hX, hbl, hL⟩ := B
  have hbA : ¬ (fun q : Nat => s.heap.size ≤ q) b := Nat.not_le.mpr hbl
  refine lv_aload_n hx hb dL_law_795 rfl (lv_at hl 1 rfl) ?_
  refine lv_aload_n hx hb dL_law_796 rfl (lv_at hl 0 rfl) ?_
  refine lv_iload_n hx hb dL_law_797 rfl (lv_at hl 3 rfl) ?_
  refine lv_iconst (v := (1 : Int32)) hx hb dL_law_798 (by decide) ?_
  refine lv_iadd hx hb dL_law_799 ?_
  refine va_sld hx hb hX hbl hbA h.2.2 (lk_ix (j := 1) (by decide) hk hL) dL_law_800 ?_
  refine lv_aload_n hx hb dL_law_801 rfl (lv_at hl 0 rfl) ?_
  refine lv_iload_n hx hb dL_law_802 rfl (lv_at hl 3 rfl) ?_
  refine lv_iconst (v := (2 : Int32)) hx hb dL_law_803 (by decide) ?_
  refine lv_iadd hx hb dL_law_804 ?_
  refine va_sld hx hb hX hbl hbA h.2.2 (lk_ix (j := 2) (by decide) hk hL) dL_law_805 ?_
  refine lk_cL F h (va_runV (As := [.int ((xs (nI k + (1 : Int32)).toNatClampNeg)), .int ((xs (nI k + (2 : Int32)).toNatClampNeg))]) (rest := []) ⟨hx, hb, hml, hown, hts⟩ (ad_X8_guessing (D := D) (cy := cy) l F.1 ((xs (nI k + (1 : Int32)).toNatClampNeg)) ((xs (nI k + (2 : Int32)).toNatClampNeg)) σc _ (ps_guessing ((xs (nI k + (1 : Int32)).toNatClampNeg)) ((xs (nI k + (2 : Int32)).toNatClampNeg)) σc σm R)) (cwV 2 hts gL_law_X8_guessing rfl rfl rfl nd_X8_guessing ⟨Nat.le_of_ble_eq_true rfl, Nat.le_of_ble_eq_true rfl⟩) (lk_pc F h [.int ((xs (nI k + (1 : Int32)).toNatClampNeg)), .int ((xs (nI k + (2 : Int32)).toNatClampNeg))]) rfl rfl hl.1 rfl (lv_room (Nat.le_of_ble_eq_true rfl)) dL_law_806 hcl) (fun r1 σc1 H locs hq h => ?_)
  refine lv_aload_n hx hb dL_law_809 rfl (lv_at hl 2 rfl) ?_
  refine lv_aload_n hx hb dL_law_810 rfl (lv_at hl 0 rfl) ?_
  refine lv_iload_n hx hb dL_law_811 rfl (lv_at hl 3 rfl) ?_
  refine lv_iconst (v := (1 : Int32)) hx hb dL_law_812 (by decide) ?_
  refine lv_iadd hx hb dL_law_813 ?_
  refine va_sld hx hb hX hbl hbA h.2.2 (lk_ix (j := 1) (by decide) hk hL) dL_law_814 ?_
  refine lv_aload_n hx hb dL_law_815 rfl (lv_at hl 0 rfl) ?_
  refine lv_iload_n hx hb dL_law_816 rfl (lv_at hl 3 rfl) ?_
  refine lv_iconst (v := (2 : Int32)) hx hb dL_law_817 (by decide) ?_
  refine lv_iadd hx hb dL_law_818 ?_
  refine va_sld hx hb hX hbl hbA h.2.2 (lk_ix (j := 2) (by decide) hk hL) dL_law_819 ?_
  refine lk_mL F h (va_runV (As := [.int ((xs (nI k + (1 : Int32)).toNatClampNeg)), .int ((xs (nI k + (2 : Int32)).toNatClampNeg))]) (rest := [.long r1]) ⟨hx, hb, hml, hown, hts⟩ (ad_X9_guessing (D := D) (cy := cy) l F.2.1 ((xs (nI k + (1 : Int32)).toNatClampNeg)) ((xs (nI k + (2 : Int32)).toNatClampNeg)) σm _ hq) (cwV 2 hts gL_law_X9_guessing rfl rfl rfl nd_X9_guessing ⟨Nat.le_of_ble_eq_true rfl, Nat.le_of_ble_eq_true rfl⟩) (lk_pm F h [.int ((xs (nI k + (1 : Int32)).toNatClampNeg)), .int ((xs (nI k + (2 : Int32)).toNatClampNeg))]) rfl rfl hl.1 rfl (lv_room (Nat.le_of_ble_eq_true rfl)) dL_law_820 hcl) (fun r2 σm1 H locs hq h => ?_)
  refine W.lcmp hx hb dL_law_823 ?_
  exact lv_if_eq (tgt := 1111) hx hb dL_law_824 (by decide) (fun _ => K _ _ _ _ h hq.2) (fun w => absurd ((lg_cmp_eq _ _).mpr hq.1) w)
set_option maxHeartbeats 1000000 in
theorem lc_22 {p : Program} {l : Launch} {e : Env} {s : State} {m : MethodId} {below : List Frame} {meth : Method} {c : Code} {H : Heap} {locs : List Loc} {cells slots : Nat} {Q : State → Prop} {ls : Array Slot} {D : va_G} {cy : Nat → ClassId} {adc adm : Nat → Nat} {σc σm : hh_S} {b L k : Nat} {xs : Nat → Int32} (B : lk_B p s m meth c b L xs) (F : lk_F D cy adc adm s) (hk : k + 5 ≤ L) (hcl : cells ≤ 600000 ∧ slots ≤ 7302250) (h : lk_T D cy adc adm s σc σm H locs) (R : RR_s σc σm) (hl : lv_has ls 4 [(0, .ref b), (1, .ref (adc 0)), (2, .ref (adm 0)), (3, .int (nI k))]) (K : ∀ (u v : hh_S) (H1 : Heap) (locs1 : List Loc), lk_T D cy adc adm s u v H1 locs1 → RR_s u v → W p l e room_1 s m #[Value.ref b] below meth c H1 locs1 cells slots Q (F0 m 1111 ls [])) : W p l e room_1 s m #[Value.ref b] below meth c H locs cells slots Q (F0 m 829 ls []) := by
  obtain ⟨hx, hb, hml, hown, hts, hX, hbl, hL⟩ := B
  have hbA : ¬ (fun q : Nat => s.heap.size ≤ q) b := Nat.not_le.mpr hbl
  refine lv_aload_n hx hb dL_law_829 rfl (lv_at hl 1 rfl) ?_
  refine lv_aload_n hx hb dL_law_830 rfl (lv_at hl 0 rfl) ?_
  refine lv_iload_n hx hb dL_law_831 rfl (lv_at hl 3 rfl) ?_
  refine lv_iconst (v := (1 : Int32)) hx hb dL_law_832 (by decide) ?_
  refine lv_iadd hx hb dL_law_833 ?_
  refine va_sld hx hb hX hbl hbA h.2.2 (lk_ix (j := 1) (by decide) hk hL) dL_law_834 ?_
  refine lv_aload_n hx hb dL_law_835 rfl (lv_at hl 0 rfl) ?_
  refine lv_iload_n hx hb dL_law_836 rfl (lv_at hl 3 rfl) ?_
  refine lv_iconst (v := (2 : Int32)) hx hb dL_law_837 (by decide) ?_
  refine lv_iadd hx hb dL_law_838 ?_
  refine va_sld hx hb hX hbl hbA h.2.2 (lk_ix (j := 2) (by decide) hk hL) dL_law_839 ?_
  refine lv_aload_n hx hb dL_law_840 rfl (lv_at hl 0 rfl) ?_
  refine lv_iload_n hx hb dL_law_841 rfl (lv_at hl 3 rfl) ?_
  refine lv_iconst (v := (3 : Int32)) hx hb dL_law_842 (by decide) ?_
  refine lv_iadd hx hb dL_law_843 ?_
  refine va_sld hx hb hX hbl hbA h.2.2 (lk_ix (j := 3) (by decide) hk hL) dL_law_844 ?_
  refine lk_cL F h (va_runV (As := [.int ((xs (nI k + (1 : Int32)).toNatClampNeg)), .int ((xs (nI k + (2 : Int32)).toNatClampNeg)), .int ((xs (nI k + (3 : Int32)).toNatClampNeg))]) (rest := []) ⟨hx, hb, hml, hown, hts⟩ (ad_X8_copying (D := D) (cy := cy) l F.1 ((xs (nI k + (1 : Int32)).toNatClampNeg)) ((xs (nI k + (2 : Int32)).toNatClampNeg)) ((xs (nI k + (3 : Int32)).toNatClampNeg)) σc _ (ps_copying ((xs (nI k + (1 : Int32)).toNatClampNeg)) ((xs (nI k + (2 : Int32)).toNatClampNeg)) ((xs (nI k + (3 : Int32)).toNatClampNeg)) σc σm R)) (cwV 3 hts gL_law_X8_copying rfl rfl rfl nd_X8_copying ⟨Nat.le_of_ble_eq_true rfl, Nat.le_of_ble_eq_true rfl⟩) (lk_pc F h [.int ((xs (nI k + (1 : Int32)).toNatClampNeg)), .int ((xs (nI k + (2 : Int32)).toNatClampNeg)), .int ((xs (nI k + (3 : Int32)).toNatClampNeg))]) rfl rfl hl.1 rfl (lv_room (Nat.le_of_ble_eq_true rfl)) dL_law_845 hcl) (fun r1 σc1 H locs hq h => ?_)
  refine lv_aload_n hx hb dL_law_848 rfl (lv_at hl 2 rfl) ?_
  refine lv_aload_n hx hb dL_law_849 rfl (lv_at hl 0 rfl) ?_
  refine lv_iload_n hx hb dL_law_850 rfl (lv_at hl 3 rfl) ?_
  refine lv_iconst (v := (1 : Int32)) hx hb dL_law_851 (by decide) ?_
  refine lv_iadd hx hb dL_law_852 ?_
  refine va_sld hx hb hX hbl hbA h.2.2 (lk_ix (j := 1) (by decide) hk hL) dL_law_853 ?_
  refine lv_aload_n hx hb dL_law_854 rfl (lv_at hl 0 rfl) ?_
  refine lv_iload_n hx hb dL_law_855 rfl (lv_at hl 3 rfl) ?_
  refine lv_iconst (v := (2 : Int32)) hx hb dL_law_856 (by decide) ?_
  refine lv_iadd hx hb dL_law_857 ?_
  refine va_sld hx hb hX hbl hbA h.2.2 (lk_ix (j := 2) (by decide) hk hL) dL_law_858 ?_
  refine lv_aload_n hx hb dL_law_859 rfl (lv_at hl 0 rfl) ?_
  refine lv_iload_n hx hb dL_law_860 rfl (lv_at hl 3 rfl) ?_
  refine lv_iconst (v := (3 : Int32)) hx hb dL_law_861 (by decide) ?_
  refine lv_iadd hx hb dL_law_862 ?_
  refine va_sld hx hb hX hbl hbA h.2.2 (lk_ix (j := 3) (by decide) hk hL) dL_law_863 ?_
  refine lk_mL F h (va_runV (As := [.int ((xs (nI k + (1 : Int32)).toNatClampNeg)), .int ((xs (nI k + (2 : Int32)).toNatClampNeg)), .int ((xs (nI k + (3 : Int32)).toNatClampNeg))]) (rest := [.long r1]) ⟨hx, hb, hml, hown, hts⟩ (ad_X9_copying (D := D) (cy := cy) l F.2.1 ((xs (nI k + (1 : Int32)).toNatClampNeg)) ((xs (nI k + (2 : Int32)).toNatClampNeg)) ((xs (nI k + (3 : Int32)).toNatClampNeg)) σm _ hq) (cwV 3 hts gL_law_X9_copying rfl rfl rfl nd_X9_copying ⟨Nat.le_of_ble_eq_true rfl, Nat.le_of_ble_eq_true rfl⟩) (lk_pm F h [.int ((xs (nI k + (1 : Int32)).toNatClampNeg)), .int ((xs (nI k + (2 : Int32)).toNatClampNeg)), .int ((xs (nI k + (3 : Int32)).toNatClampNeg))]) rfl rfl hl.1 rfl (lv_room (Nat.le_of_ble_eq_true rfl)) dL_law_864 hcl) (fun r2 σm1 H locs hq h => ?_)
  refine W.lcmp hx hb dL_law_867 ?_
  exact lv_if_eq (tgt := 1111) hx hb dL_law_868 (by decide) (fun _ => K _ _ _ _ h hq.2) (fun w => absurd ((lg_cmp_eq _ _).mpr hq.1) w)
set_option maxHeartbeats 1000000 in
theorem lc_23 {p : Program} {l : Launch} {e : Env} {s : State} {m : MethodId} {below : List Frame} {meth : Method} {c : Code} {H : Heap} {locs : List Loc} {cells slots : Nat} {Q : State → Prop} {ls : Array Slot} {D : va_G} {cy : Nat → ClassId} {adc adm : Nat → Nat} {σc σm : hh_S} {b L k : Nat} {xs : Nat → Int32} (B : lk_B p s m meth c b L xs) (F : lk_F D cy adc adm s) (hk : k + 5 ≤ L) (hcl : cells ≤ 600000 ∧ slots ≤ 7302250) (h : lk_T D cy adc adm s σc σm H locs) (R : RR_s σc σm) (hl : lv_has ls 4 [(0, .ref b), (1, .ref (adc 0)), (2, .ref (adm 0)), (3, .int (nI k))]) (K : ∀ (u v : hh_S) (H1 : Heap) (locs1 : List Loc), lk_T D cy adc adm s u v H1 locs1 → RR_s u v → W p l e room_1 s m #[Value.ref b] below meth c H1 locs1 cells slots Q (F0 m 1111 ls [])) : W p l e room_1 s m #[Value.ref b] below meth c H locs cells slots Q (F0 m 873 ls []) := by
  obtain ⟨hx, hb, hml, hown, hts, hX, hbl, hL⟩ := B
  have hbA : ¬ (fun q : Nat => s.heap.size ≤ q) b := Nat.not_le.mpr hbl
  refine lv_aload_n hx hb dL_law_873 rfl (lv_at hl 1 rfl) ?_
  refine lv_aload_n hx hb dL_law_874 rfl (lv_at hl 0 rfl) ?_
  refine lv_iload_n hx hb dL_law_875 rfl (lv_at hl 3 rfl) ?_
  refine lv_iconst (v := (1 : Int32)) hx hb dL_law_876 (by decide) ?_
  refine lv_iadd hx hb dL_law_877 ?_
  refine va_sld hx hb hX hbl hbA h.2.2 (lk_ix (j := 1) (by decide) hk hL) dL_law_878 ?_
  refine lk_cI F h (va_runV (As := [.int ((xs (nI k + (1 : Int32)).toNatClampNeg))]) (rest := []) ⟨hx, hb, hml, hown, hts⟩ (ad_X8_misread (D := D) (cy := cy) l F.1 ((xs (nI k + (1 : Int32)).toNatClampNeg)) σc _ (ps_misread ((xs (nI k + (1 : Int32)).toNatClampNeg)) σc σm R)) (cwV 1 hts gL_law_X8_misread rfl rfl rfl nd_X8_misread ⟨Nat.le_of_ble_eq_true rfl, Nat.le_of_ble_eq_true rfl⟩) (lk_pc F h [.int ((xs (nI k + (1 : Int32)).toNatClampNeg))]) rfl rfl hl.1 rfl (lv_room (Nat.le_of_ble_eq_true rfl)) dL_law_879 hcl) (fun r1 σc1 H locs hq h => ?_)
  refine lv_aload_n hx hb dL_law_882 rfl (lv_at hl 2 rfl) ?_
  refine lv_aload_n hx hb dL_law_883 rfl (lv_at hl 0 rfl) ?_
  refine lv_iload_n hx hb dL_law_884 rfl (lv_at hl 3 rfl) ?_
  refine lv_iconst (v := (1 : Int32)) hx hb dL_law_885 (by decide) ?_
  refine lv_iadd hx hb dL_law_886 ?_
  refine va_sld hx hb hX hbl hbA h.2.2 (lk_ix (j := 1) (by decide) hk hL) dL_law_887 ?_
  refine lk_mI F h (va_runV (As := [.int ((xs (nI k + (1 : Int32)).toNatClampNeg))]) (rest := [.int r1]) ⟨hx, hb, hml, hown, hts⟩ (ad_X9_misread (D := D) (cy := cy) l F.2.1 ((xs (nI k + (1 : Int32)).toNatClampNeg)) σm _ hq) (cwV 1 hts gL_law_X9_misread rfl rfl rfl nd_X9_misread ⟨Nat.le_of_ble_eq_true rfl, Nat.le_of_ble_eq_true rfl⟩) (lk_pm F h [.int ((xs (nI k + (1 : Int32)).toNatClampNeg))]) rfl rfl hl.1 rfl (lv_room (Nat.le_of_ble_eq_true rfl)) dL_law_888 hcl) (fun r2 σm1 H locs hq h => ?_)
  exact lv_icmp_eq (tgt := 1111) hx hb dL_law_891 (by decide) (fun _ => K _ _ _ _ h hq.2) (fun w => absurd hq.1 w)
