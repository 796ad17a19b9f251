set_option maxHeartbeats 1000000 in
theorem lc_24 {p : Program} {l : Launch} {e : Env} {s : State} {m : MethodId} {below : List Frame} {meth : Method} {c : Code} {H : Heap} {locs : List Loc} {cells slots : Nat} {Q : State → Prop} {ls : Array Slot} {D : va_G} {cy : Nat → ClassId} {adc adm : Nat → Nat} {σc σm : hh_S} {b L k : Nat} {xs : Nat → Int32} (B : lk_B p s m meth c b L xs) (F : lk_F D cy adc adm s) (hk : k + 5 ≤ L) (hcl : cells ≤ 600000 ∧ slots ≤ 7302250) (h : lk_T D cy adc adm s σc σm H locs) (R : RR_s σc σm) (hl : lv_has ls 4 [(0, .ref b), (1, .ref (adc 0)), (2, .ref (adm 0)), (3, .int (nI k))]) (K : ∀ (u v : hh_S) (H1 : Heap) (locs1 : List Loc), lk_T D cy adc adm s u v H1 locs1 → RR_s u v → W p l e room_1 s m #[Value.ref b] below meth c H1 locs1 cells slots Q (F0 m 1111 ls [])) : W p l e room_1 s m #[Value.ref b] below meth c H locs cells slots Q (F0 m 896 ls []) := by
  obtain ⟨hx, hb, hml, hown, hts, hX, hbl, hL⟩ := B
  have hbA : ¬ (fun q : Nat => s.heap.size ≤ q) b := Nat.not_le.mpr hbl
  refine lv_aload_n hx hb dL_law_896 rfl (lv_at hl 1 rfl) ?_
  refine lv_aload_n hx hb dL_law_897 rfl (lv_at hl 0 rfl) ?_
  refine lv_iload_n hx hb dL_law_898 rfl (lv_at hl 3 rfl) ?_
  refine lv_iconst (v := (1 : Int32)) hx hb dL_law_899 (by decide) ?_
  refine lv_iadd hx hb dL_law_900 ?_
  refine va_sld hx hb hX hbl hbA h.2.2 (lk_ix (j := 1) (by decide) hk hL) dL_law_901 ?_
  refine lk_cI F h (va_runV (As := [.int ((xs (nI k + (1 : Int32)).toNatClampNeg))]) (rest := []) ⟨hx, hb, hml, hown, hts⟩ (ad_X8_deal (D := D) (cy := cy) l F.1 ((xs (nI k + (1 : Int32)).toNatClampNeg)) σc _ (ps_deal ((xs (nI k + (1 : Int32)).toNatClampNeg)) σc σm R)) (cwV 1 hts gL_law_X8_deal rfl rfl rfl nd_X8_deal ⟨Nat.le_of_ble_eq_true rfl, Nat.le_of_ble_eq_true rfl⟩) (lk_pc F h [.int ((xs (nI k + (1 : Int32)).toNatClampNeg))]) rfl rfl hl.1 rfl (lv_room (Nat.le_of_ble_eq_true rfl)) dL_law_902 hcl) (fun r1 σc1 H locs hq h => ?_)
  refine lv_aload_n hx hb dL_law_905 rfl (lv_at hl 2 rfl) ?_
  refine lv_aload_n hx hb dL_law_906 rfl (lv_at hl 0 rfl) ?_
  refine lv_iload_n hx hb dL_law_907 rfl (lv_at hl 3 rfl) ?_
  refine lv_iconst (v := (1 : Int32)) hx hb dL_law_908 (by decide) ?_
  refine lv_iadd hx hb dL_law_909 ?_
  refine va_sld hx hb hX hbl hbA h.2.2 (lk_ix (j := 1) (by decide) hk hL) dL_law_910 ?_
  refine lk_mI F h (va_runV (As := [.int ((xs (nI k + (1 : Int32)).toNatClampNeg))]) (rest := [.int r1]) ⟨hx, hb, hml, hown, hts⟩ (ad_X9_deal (D := D) (cy := cy) l F.2.1 ((xs (nI k + (1 : Int32)).toNatClampNeg)) σm _ hq) (cwV 1 hts gL_law_X9_deal rfl rfl rfl nd_X9_deal ⟨Nat.le_of_ble_eq_true rfl, Nat.le_of_ble_eq_true rfl⟩) (lk_pm F h [.int ((xs (nI k + (1 : Int32)).toNatClampNeg))]) rfl rfl hl.1 rfl (lv_room (Nat.le_of_ble_eq_true rfl)) dL_law_911 hcl) (fun r2 σm1 H locs hq h => ?_)
  exact lv_icmp_eq (tgt := 1111) hx hb dL_law_914 (by decide) (fun _ => K _ _ _ _ h hq.2) (fun w => absurd hq.1 w)
set_option maxHeartbeats 1000000 in
theorem lc_25 {p : Program} {l : Launch} {e : Env} {s : State} {m : MethodId} {below : List Frame} {meth : Method} {c : Code} {H : Heap} {locs : List Loc} {cells slots : Nat} {Q : State → Prop} {ls : Array Slot} {D : va_G} {cy : Nat → ClassId} {adc adm : Nat → Nat} {σc σm : hh_S} {b L k : Nat} {xs : Nat → Int32} (B : lk_B p s m meth c b L xs) (F : lk_F D cy adc adm s) (hk : k + 5 ≤ L) (hcl : cells ≤ 600000 ∧ slots ≤ 7302250) (h : lk_T D cy adc adm s σc σm H locs) (R : RR_s σc σm) (hl : lv_has ls 4 [(0, .ref b), (1, .ref (adc 0)), (2, .ref (adm 0)), (3, .int (nI k))]) (K : ∀ (u v : hh_S) (H1 : Heap) (locs1 : List Loc), lk_T D cy adc adm s u v H1 locs1 → RR_s u v → W p l e room_1 s m #[Value.ref b] below meth c H1 locs1 cells slots Q (F0 m 1111 ls [])) : W p l e room_1 s m #[Value.ref b] below meth c H locs cells slots Q (F0 m 919 ls []) := by
  obtain ⟨hx, hb, hml, hown, hts, hX, hbl, hL⟩ := B
  have hbA : ¬ (fun q : Nat => s.heap.size ≤ q) b := Nat.not_le.mpr hbl
  refine lv_aload_n hx hb dL_law_919 rfl (lv_at hl 1 rfl) ?_
  refine lv_aload_n hx hb dL_law_920 rfl (lv_at hl 0 rfl) ?_
  refine lv_iload_n hx hb dL_law_921 rfl (lv_at hl 3 rfl) ?_
  refine lv_iconst (v := (1 : Int32)) hx hb dL_law_922 (by decide) ?_
  refine lv_iadd hx hb dL_law_923 ?_
  refine va_sld hx hb hX hbl hbA h.2.2 (lk_ix (j := 1) (by decide) hk hL) dL_law_924 ?_
  refine lk_cL F h (va_runV (As := [.int ((xs (nI k + (1 : Int32)).toNatClampNeg))]) (rest := []) ⟨hx, hb, hml, hown, hts⟩ (ad_X8_better (D := D) (cy := cy) l F.1 ((xs (nI k + (1 : Int32)).toNatClampNeg)) σc _ (ps_better ((xs (nI k + (1 : Int32)).toNatClampNeg)) σc σm R)) (cwV 1 hts gL_law_X8_better rfl rfl rfl nd_X8_better ⟨Nat.le_of_ble_eq_true rfl, Nat.le_of_ble_eq_true rfl⟩) (lk_pc F h [.int ((xs (nI k + (1 : Int32)).toNatClampNeg))]) rfl rfl hl.1 rfl (lv_room (Nat.le_of_ble_eq_true rfl)) dL_law_925 hcl) (fun r1 σc1 H locs hq h => ?_)
  refine lv_aload_n hx hb dL_law_928 rfl (lv_at hl 2 rfl) ?_
  refine lv_aload_n hx hb dL_law_929 rfl (lv_at hl 0 rfl) ?_
  refine lv_iload_n hx hb dL_law_930 rfl (lv_at hl 3 rfl) ?_
  refine lv_iconst (v := (1 : Int32)) hx hb dL_law_931 (by decide) ?_
  refine lv_iadd hx hb dL_law_932 ?_
  refine va_sld hx hb hX hbl hbA h.2.2 (lk_ix (j := 1) (by decide) hk hL) dL_law_933 ?_
  refine lk_mL F h (va_runV (As := [.int ((xs (nI k + (1 : Int32)).toNatClampNeg))]) (rest := [.long r1]) ⟨hx, hb, hml, hown, hts⟩ (ad_X9_better (D := D) (cy := cy) l F.2.1 ((xs (nI k + (1 : Int32)).toNatClampNeg)) σm _ hq) (cwV 1 hts gL_law_X9_better rfl rfl rfl nd_X9_better ⟨Nat.le_of_ble_eq_true rfl, Nat.le_of_ble_eq_true rfl⟩) (lk_pm F h [.int ((xs (nI k + (1 : Int32)).toNatClampNeg))]) rfl rfl hl.1 rfl (lv_room (Nat.le_of_ble_eq_true rfl)) dL_law_934 hcl) (fun r2 σm1 H locs hq h => ?_)
  refine W.lcmp hx hb dL_law_937 ?_
  exact lv_if_eq (tgt := 1111) hx hb dL_law_938 (by decide) (fun _ => K _ _ _ _ h hq.2) (fun w => absurd ((lg_cmp_eq _ _).mpr hq.1) w)
set_option maxHeartbeats 1000000 in
theorem lc_26 {p : Program} {l : Launch} {e : Env} {s : State} {m : MethodId} {below : List Frame} {meth : Method} {c : Code} {H : Heap} {locs : List Loc} {cells slots : Nat} {Q : State → Prop} {ls : Array Slot} {D : va_G} {cy : Nat → ClassId} {adc adm : Nat → Nat} {σc σm : hh_S} {b L k : Nat} {xs : Nat → Int32} (B : lk_B p s m meth c b L xs) (F : lk_F D cy adc adm s) (hk : k + 5 ≤ L) (hcl : cells ≤ 600000 ∧ slots ≤ 7302250) (h : lk_T D cy adc adm s σc σm H locs) (R : RR_s σc σm) (hl : lv_has ls 4 [(0, .ref b), (1, .ref (adc 0)), (2, .ref (adm 0)), (3, .int (nI k))]) (K : ∀ (u v : hh_S) (H1 : Heap) (locs1 : List Loc), lk_T D cy adc adm s u v H1 locs1 → RR_s u v → W p l e room_1 s m #[Value.ref b] below meth c H1 locs1 cells slots Q (F0 m 1111 ls [])) : W p l e room_1 s m #[Value.ref b] below meth c H locs cells slots Q (F0 m 943 ls []) := by
  obtain ⟨hx, hb, hml, hown, hts, hX, hbl, hL⟩ := B
  have hbA : ¬ (fun q : Nat => s.heap.size ≤ q) b := Nat.not_le.mpr hbl
  refine lv_aload_n hx hb dL_law_943 rfl (lv_at hl 1 rfl) ?_
  refine lv_aload_n hx hb dL_law_944 rfl (lv_at hl 0 rfl) ?_
  refine lv_iload_n hx hb dL_law_945 rfl (lv_at hl 3 rfl) ?_
  refine lv_iconst (v := (1 : Int32)) hx hb dL_law_946 (by decide) ?_
  refine lv_iadd hx hb dL_law_947 ?_
  refine va_sld hx hb hX hbl hbA h.2.2 (lk_ix (j := 1) (by decide) hk hL) dL_law_948 ?_
  refine lk_cI F h (va_runV (As := [.int ((xs (nI k + (1 : Int32)).toNatClampNeg))]) (rest := []) ⟨hx, hb, hml, hown, hts⟩ (ad_X8_lean (D := D) (cy := cy) l F.1 ((xs (nI k + (1 : Int32)).toNatClampNeg)) σc _ (ps_lean ((xs (nI k + (1 : Int32)).toNatClampNeg)) σc σm R)) (cwV 1 hts gL_law_X8_lean rfl rfl rfl nd_X8_lean ⟨Nat.le_of_ble_eq_true rfl, Nat.le_of_ble_eq_true rfl⟩) (lk_pc F h [.int ((xs (nI k + (1 : Int32)).toNatClampNeg))]) rfl rfl hl.1 rfl (lv_room (Nat.le_of_ble_eq_true rfl)) dL_law_949 hcl) (fun r1 σc1 H locs hq h => ?_)
  refine lv_aload_n hx hb dL_law_952 rfl (lv_at hl 2 rfl) ?_
  refine lv_aload_n hx hb dL_law_953 rfl (lv_at hl 0 rfl) ?_
  refine lv_iload_n hx hb dL_law_954 rfl (lv_at hl 3 rfl) ?_
  refine lv_iconst (v := (1 : Int32)) hx hb dL_law_955 (by decide) ?_
  refine lv_iadd hx hb dL_law_956 ?_
  refine va_sld hx hb hX hbl hbA h.2.2 (lk_ix (j := 1) (by decide) hk hL) dL_law_957 ?_
  refine lk_mI F h (va_runV (As := [.int ((xs (nI k + (1 : Int32)).toNatClampNeg))]) (rest := [.int r1]) ⟨hx, hb, hml, hown, hts⟩ (ad_X9_lean (D := D) (cy := cy) l F.2.1 ((xs (nI k + (1 : Int32)).toNatClampNeg)) σm _ hq) (cwV 1 hts gL_law_X9_lean rfl rfl rfl nd_X9_lean ⟨Nat.le_of_ble_eq_true rfl, Nat.le_of_ble_eq_true rfl⟩) (lk_pm F h [.int ((xs (nI k + (1 : Int32)).toNatClampNeg))]) rfl rfl hl.1 rfl (lv_room (Nat.le_of_ble_eq_true rfl)) dL_law_958 hcl) (fun r2 σm1 H locs hq h => ?_)
  exact lv_icmp_eq (tgt := 1111) hx hb dL_law_961 (by decide) (fun _ => K _ _ _ _ h hq.2) (fun w => absurd hq.1 w)
set_option maxHeartbeats 1000000 in
theorem lc_27 {p : Program} {l : Launch} {e : Env} {s : State} {m : MethodId} {below : List Frame} {meth : Method} {c : Code} {H : Heap} {locs : List Loc} {cells slots : Nat} {Q : State → Prop} {ls : Array Slot} {D : va_G} {cy : Nat → ClassId} {adc adm : Nat → Nat} {σc σm : hh_S} {b L k : Nat} {xs : Nat → Int32} (B : lk_B p s m meth c b L xs) (F : lk_F D cy adc adm s) (hk : k + 5 ≤ L) (hcl : cells ≤ 600000 ∧ slots ≤ 7302250) (h : lk_T D cy adc adm s σc σm H locs) (R : RR_s σc σm) (hl : lv_has ls 4 [(0, .ref b), (1, .ref (adc 0)), (2, .ref (adm 0)), (3, .int (nI k))]) (K : ∀ (u v : hh_S) (H1 : Heap) (locs1 : List Loc), lk_T D cy adc adm s u v H1 locs1 → RR_s u v → W p l e room_1 s m #[Value.ref b] below meth c H1 locs1 cells slots Q (F0 m 1111 ls [])) : W p l e room_1 s m #[Value.ref b] below meth c H locs cells slots Q (F0 m 966 ls []) := by
  obtain ⟨hx, hb, hml, hown, hts, hX, hbl, hL⟩ := B
  have hbA : ¬ (fun q : Nat => s.heap.size ≤ q) b := Nat.not_le.mpr hbl
  refine lv_aload_n hx hb dL_law_966 rfl (lv_at hl 1 rfl) ?_
  refine lv_aload_n hx hb dL_law_967 rfl (lv_at hl 0 rfl) ?_
  refine lv_iload_n hx hb dL_law_968 rfl (lv_at hl 3 rfl) ?_
  refine lv_iconst (v := (1 : Int32)) hx hb dL_law_969 (by decide) ?_
  refine lv_iadd hx hb dL_law_970 ?_
  refine va_sld hx hb hX hbl hbA h.2.2 (lk_ix (j := 1) (by decide) hk hL) dL_law_971 ?_
  refine lk_cI F h (va_runV (As := [.int ((xs (nI k + (1 : Int32)).toNatClampNeg))]) (rest := []) ⟨hx, hb, hml, hown, hts⟩ (ad_X8_coins (D := D) (cy := cy) l F.1 ((xs (nI k + (1 : Int32)).toNatClampNeg)) σc _ (ps_coins ((xs (nI k + (1 : Int32)).toNatClampNeg)) σc σm R)) (cwV 1 hts gL_law_X8_coins rfl rfl rfl nd_X8_coins ⟨Nat.le_of_ble_eq_true rfl, Nat.le_of_ble_eq_true rfl⟩) (lk_pc F h [.int ((xs (nI k + (1 : Int32)).toNatClampNeg))]) rfl rfl hl.1 rfl (lv_room (Nat.le_of_ble_eq_true rfl)) dL_law_972 hcl) (fun r1 σc1 H locs hq h => ?_)
  refine lv_aload_n hx hb dL_law_975 rfl (lv_at hl 2 rfl) ?_
  refine lv_aload_n hx hb dL_law_976 rfl (lv_at hl 0 rfl) ?_
  refine lv_iload_n hx hb dL_law_977 rfl (lv_at hl 3 rfl) ?_
  refine lv_iconst (v := (1 : Int32)) hx hb dL_law_978 (by decide) ?_
  refine lv_iadd hx hb dL_law_979 ?_
  refine va_sld hx hb hX hbl hbA h.2.2 (lk_ix (j := 1) (by decide) hk hL) dL_law_980 ?_
  refine lk_mI F h (va_runV (As := [.int ((xs (nI k + (1 : Int32)).toNatClampNeg))]) (rest := [.int r1]) ⟨hx, hb, hml, hown, hts⟩ (ad_X9_coins (D := D) (cy := cy) l F.2.1 ((xs (nI k + (1 : Int32)).toNatClampNeg)) σm _ hq) (cwV 1 hts gL_law_X9_coins rfl rfl rfl nd_X9_coins ⟨Nat.le_of_ble_eq_true rfl, Nat.le_of_ble_eq_true rfl⟩) (lk_pm F h [.int ((xs (nI k + (1 : Int32)).toNatClampNeg))]) rfl rfl hl.1 rfl (lv_room (Nat.le_of_ble_eq_true rfl)) dL_law_981 hcl) (fun r2 σm1 H locs hq h => ?_)
  exact lv_icmp_eq (tgt := 1111) hx hb dL_law_984 (by decide) (fun _ => K _ _ _ _ h hq.2) (fun w => absurd hq.1 w)
set_option maxHeartbeats 1000000 in
theorem lc_28 {p : Program} {l : Launch} {e : Env} {s : State} {m : MethodId} {below : List Frame} {meth : Method} {c : Code} {H : Heap} {locs : List Loc} {cells slots : Nat} {Q : State → Prop} {ls : Array Slot} {D : va_G} {cy : Nat → ClassId} {adc adm : Nat → Nat} {σc σm : hh_S} {b L k : Nat} {xs : Nat → Int32} (B : lk_B p s m meth c b L xs) (F : lk_F D cy adc adm s) (hk : k + 5 ≤ L) (hcl : cells ≤ 600000 ∧ slots ≤ 7302250) (h : lk_T D cy adc adm s σc σm H locs) (R : RR_s σc σm) (hl : lv_has ls 4 [(0, .ref b), (1, .ref (adc 0)), (2, .ref (adm 0)), (3, .int (nI k))]) (K : ∀ (u v : hh_S) (H1 : Heap) (locs1 : List Loc), lk_T D cy adc adm s u v H1 locs1 → RR_s u v → W p l e room_1 s m #[Value.ref b] below meth c H1 locs1 cells slots Q (F0 m 1111 ls [])) : W p l e room_1 s m #[Value.ref b] below meth c H locs cells slots Q (F0 m 989 ls []) := by
  obtain ⟨hx, hb, hml, hown, hts, hX, hbl, hL⟩ := B
  have hbA : ¬ (fun q : Nat => s.heap.size ≤ q) b := Nat.not_le.mpr hbl
  refine lv_aload_n hx hb dL_law_989 rfl (lv_at hl 1 rfl) ?_
  refine lv_aload_n hx hb dL_law_990 rfl (lv_at hl 0 rfl) ?_
  refine lv_iload_n hx hb dL_law_991 rfl (lv_at hl 3 rfl) ?_
  refine lv_iconst (v := (1 : Int32)) hx hb dL_law_992 (by decide) ?_
  refine lv_iadd hx hb dL_law_993 ?_
  refine va_sld hx hb hX hbl hbA h.2.2 (lk_ix (j := 1) (by decide) hk hL) dL_law_994 ?_
  refine lv_aload_n hx hb dL_law_995 rfl (lv_at hl 0 rfl) ?_
  refine lv_iload_n hx hb dL_law_996 rfl (lv_at hl 3 rfl) ?_
  refine lv_iconst (v := (2 : Int32)) hx hb dL_law_997 (by decide) ?_
  refine lv_iadd hx hb dL_law_998 ?_
  refine va_sld hx hb hX hbl hbA h.2.2 (lk_ix (j := 2) (by decide) hk hL) dL_law_999 ?_
  refine lv_aload_n hx hb dL_law_1000 rfl (lv_at hl 0 rfl) ?_
  refine lv_iload_n hx hb dL_law_1001 rfl (lv_at hl 3 rfl) ?_
  refine lv_iconst (v := (3 : Int32)) hx hb dL_law_1002 (by decide) ?_
  refine lv_iadd hx hb dL_law_1003 ?_
  refine va_sld hx hb hX hbl hbA h.2.2 (lk_ix (j := 3) (by decide) hk hL) dL_law_1004 ?_
  refine lk_cI F h (va_runV (As := [.int ((xs (nI k + (1 : Int32)).toNatClampNeg)), .int ((xs (nI k + (2 : Int32)).toNatClampNeg)), .int ((xs (nI k + (3 : Int32)).toNatClampNeg))]) (rest := []) ⟨hx, hb, hml, hown, hts⟩ (ad_X8_pays (D := D) (cy := cy) l F.1 ((xs (nI k + (1 : Int32)).toNatClampNeg)) ((xs (nI k + (2 : Int32)).toNatClampNeg)) ((xs (nI k + (3 : Int32)).toNatClampNeg)) σc _ (ps_pays ((xs (nI k + (1 : Int32)).toNatClampNeg)) ((xs (nI k + (2 : Int32)).toNatClampNeg)) ((xs (nI k + (3 : Int32)).toNatClampNeg)) σc σm R)) (cwV 3 hts gL_law_X8_pays rfl rfl rfl nd_X8_pays ⟨Nat.le_of_ble_eq_true rfl, Nat.le_of_ble_eq_true rfl⟩) (lk_pc F h [.int ((xs (nI k + (1 : Int32)).toNatClampNeg)), .int ((xs (nI k + (2 : Int32)).toNatClampNeg)), .int ((xs (nI k + (3 : Int32)).toNatClampNeg))]) rfl rfl hl.1 rfl (lv_room (Nat.le_of_ble_eq_true rfl)) dL_law_1005 hcl) (fun r1 σc1 H locs hq h => ?_)
  refine lv_aload_n hx hb dL_law_1008 rfl (lv_at hl 2 rfl) ?_
  refine lv_aload_n hx hb dL_law_1009 rfl (lv_at hl 0 rfl) ?_
  refine lv_iload_n hx hb dL_law_1010 rfl (lv_at hl 3 rfl) ?_
  refine lv_iconst (v := (1 : Int32)) hx hb dL_law_1011 (by decide) ?_
  refine lv_iadd hx hb dL_law_1012 ?_
  refine va_sld hx hb hX hbl hbA h.2.2 (lk_ix (j := 1) (by decide) hk hL) dL_law_1013 ?_
  refine lv_aload_n hx hb dL_law_1014 rfl (lv_at hl 0 rfl) ?_
  refine lv_iload_n hx hb dL_law_1015 rfl (lv_at hl 3 rfl) ?_
  refine lv_iconst (v := (2 : Int32)) hx hb dL_law_1016 (by decide) ?_
  refine lv_iadd hx hb dL_law_1017 ?_
  refine va_sld hx hb hX hbl hbA h.2.2 (lk_ix (j := 2) (by decide) hk hL) dL_law_1018 ?_
  refine lv_aload_n hx hb dL_law_1019 rfl (lv_at hl 0 rfl) ?_
  refine lv_iload_n hx hb dL_law_1020 rfl (lv_at hl 3 rfl) ?_
  refine lv_iconst (v := (3 : Int32)) hx hb dL_law_1021 (by decide) ?_
  refine lv_iadd hx hb dL_law_1022 ?_
  refine va_sld hx hb hX hbl hbA h.2.2 (lk_ix (j := 3) (by decide) hk hL) dL_law_1023 ?_
  refine lk_mI F h (va_runV (As := [.int ((xs (nI k + (1 : Int32)).toNatClampNeg)), .int ((xs (nI k + (2 : Int32)).toNatClampNeg)), .int ((xs (nI k + (3 : Int32)).toNatClampNeg))]) (rest := [.int r1]) ⟨hx, hb, hml, hown, hts⟩ (ad_X9_pays (D := D) (cy := cy) l F.2.1 ((xs (nI k + (1 : Int32)).toNatClampNeg)) ((xs (nI k + (2 : Int32)).toNatClampNeg)) ((xs (nI k + (3 : Int32)).toNatClampNeg)) σm _ hq) (cwV 3 hts gL_law_X9_pays rfl rfl rfl nd_X9_pays ⟨Nat.le_of_ble_eq_true rfl, Nat.le_of_ble_eq_true rfl⟩) (lk_pm F h [.int ((xs (nI k + (1 : Int32)).toNatClampNeg)), .int ((xs (nI k + (2 : Int32)).toNatClampNeg)), .int ((xs (nI k + (3 : Int32)).toNatClampNeg))]) rfl rfl hl.1 rfl (lv_room (Nat.le_of_ble_eq_true rfl)) dL_law_1024 hcl) (fun r2 σm1 H locs hq h => ?_)
  exact lv_icmp_eq (tgt := 1111) hx hb dL_law_1027 (by decide) (fun _ => K _ _ _ _ h hq.2) (fun w => absurd hq.1 w)
set_option maxHeartbeats 1000000 in
theorem lc_29 {p : Program} {l : Launch} {e : Env} {s : State} {m : MethodId} {below : List Frame} {meth : Method} {c : Code} {H : Heap} {locs : List Loc} {cells slots : Nat} {Q : State → Prop} {ls : Array Slot} {D : va_G} {cy : Nat → ClassId} {adc adm : Nat → Nat} {σc σm : hh_S} {b L k : Nat} {xs : Nat → Int32} (B : lk_B p s m meth c b L xs) (F : lk_F D cy adc adm s) (hk : k + 5 ≤ L) (hcl : cells ≤ 600000 ∧ slots ≤ 7302250) (h : lk_T D cy adc adm s σc σm H locs) (R : RR_s σc σm) (hl : lv_has ls 4 [(0, .ref b), (1, .ref (adc 0)), (2, .ref (adm 0)), (3, .int (nI k))]) (K : ∀ (u v : hh_S) (H1 : Heap) (locs1 : List Loc), lk_T D cy adc adm s u v H1 locs1 → RR_s u v → W p l e room_1 s m #[Value.ref b] below meth c H1 locs1 cells slots Q (F0 m 1111 ls [])) : W p l e room_1 s m #[Value.ref b] below meth c H locs cells slots Q (F0 m 1032 ls []) := by
  obtain ⟨hx, hb, hml, hown, hts, hX, hbl, hL⟩ := B
  have hbA : ¬ (fun q : Nat => s.heap.size ≤ q) b := Nat.not_le.mpr hbl
  refine lv_aload_n hx hb dL_law_1032 rfl (lv_at hl 1 rfl) ?_
  refine lv_aload_n hx hb dL_law_1033 rfl (lv_at hl 0 rfl) ?_
  refine lv_iload_n hx hb dL_law_1034 rfl (lv_at hl 3 rfl) ?_
  refine lv_iconst (v := (1 : Int32)) hx hb dL_law_1035 (by decide) ?_
  refine lv_iadd hx hb dL_law_1036 ?_
  refine va_sld hx hb hX hbl hbA h.2.2 (lk_ix (j := 1) (by decide) hk hL) dL_law_1037 ?_
  refine lk_cI F h (va_runV (As := [.int ((xs (nI k + (1 : Int32)).toNatClampNeg))]) (rest := []) ⟨hx, hb, hml, hown, hts⟩ (ad_X8_belief (D := D) (cy := cy) l F.1 ((xs (nI k + (1 : Int32)).toNatClampNeg)) σc _ (ps_belief ((xs (nI k + (1 : Int32)).toNatClampNeg)) σc σm R)) (cwV 1 hts gL_law_X8_belief rfl rfl rfl nd_X8_belief ⟨Nat.le_of_ble_eq_true rfl, Nat.le_of_ble_eq_true rfl⟩) (lk_pc F h [.int ((xs (nI k + (1 : Int32)).toNatClampNeg))]) rfl rfl hl.1 rfl (lv_room (Nat.le_of_ble_eq_true rfl)) dL_law_1038 hcl) (fun r1 σc1 H locs hq h => ?_)
  refine lv_aload_n hx hb dL_law_1041 rfl (lv_at hl 2 rfl) ?_
  refine lv_aload_n hx hb dL_law_1042 rfl (lv_at hl 0 rfl) ?_
  refine lv_iload_n hx hb dL_law_1043 rfl (lv_at hl 3 rfl) ?_
  refine lv_iconst (v := (1 : Int32)) hx hb dL_law_1044 (by decide) ?_
  refine lv_iadd hx hb dL_law_1045 ?_
  refine va_sld hx hb hX hbl hbA h.2.2 (lk_ix (j := 1) (by decide) hk hL) dL_law_1046 ?_
  refine lk_mI F h (va_runV (As := [.int ((xs (nI k + (1 : Int32)).toNatClampNeg))]) (rest := [.int r1]) ⟨hx, hb, hml, hown, hts⟩ (ad_X9_belief (D := D) (cy := cy) l F.2.1 ((xs (nI k + (1 : Int32)).toNatClampNeg)) σm _ hq) (cwV 1 hts gL_law_X9_belief rfl rfl rfl nd_X9_belief ⟨Nat.le_of_ble_eq_true rfl, Nat.le_of_ble_eq_true rfl⟩) (lk_pm F h [.int ((xs (nI k + (1 : Int32)).toNatClampNeg))]) rfl rfl hl.1 rfl (lv_room (Nat.le_of_ble_eq_true rfl)) dL_law_1047 hcl) (fun r2 σm1 H locs hq h => ?_)
  exact lv_icmp_eq (tgt := 1111) hx hb dL_law_1050 (by decide) (fun _ => K _ _ _ _ h hq.2) (fun w => absurd hq.1 w)
set_option maxHeartbeats 1000000 in
theorem lc_30 {p : Program} {l : Launch} {e : Env} {s : State} {m : MethodId} {below : List Frame} {meth : Method} {c : Code} {H : Heap} {locs : List Loc} {cells slots : Nat} {Q : State → Prop} {ls : Array Slot} {D : va_G} {cy : Nat → ClassId} {adc adm : Nat → Nat} {σc σm : hh_S} {b L k : Nat} {xs : Nat → Int32} (B : lk_B p s m meth c b L xs) (F : lk_F D cy adc adm s) (hk : k + 5 ≤ L) (hcl : cells ≤ 600000 ∧ slots ≤ 7302250) (h : lk_T D cy adc adm s σc σm H locs) (R : RR_s σc σm) (hl : lv_has ls 4 [(0, .ref b), (1, .ref (adc 0)), (2, .ref (adm 0)), (3, .int (nI k))]) (K : ∀ (u v : hh_S) (H1 : Heap) (locs1 : List Loc), lk_T D cy adc adm s u v H1 locs1 → RR_s u v → W p l e room_1 s m #[Value.ref b] below meth c H1 locs1 cells slots Q (F0 m 1111 ls [])) : W p l e room_1 s m #[Value.ref b] below meth c H locs cells slots Q (F0 m 1055 ls []) := by
  obtain ⟨hx, hb, hml, hown, hts, hX, hbl, hL⟩ := B
  have hbA : ¬ (fun q : Nat => s.heap.size ≤ q) b := Nat.not_le.mpr hbl
  refine lv_aload_n hx hb dL_law_1055 rfl (lv_at hl 1 rfl) ?_
  refine lv_aload_n hx hb dL_law_1056 rfl (lv_at hl 0 rfl) ?_
  refine lv_iload_n hx hb dL_law_1057 rfl (lv_at hl 3 rfl) ?_
  refine lv_iconst (v := (1 : Int32)) hx hb dL_law_1058 (by decide) ?_
  refine lv_iadd hx hb dL_law_1059 ?_
  refine va_sld hx hb hX hbl hbA h.2.2 (lk_ix (j := 1) (by decide) hk hL) dL_law_1060 ?_
  refine lv_aload_n hx hb dL_law_1061 rfl (lv_at hl 0 rfl) ?_
  refine lv_iload_n hx hb dL_law_1062 rfl (lv_at hl 3 rfl) ?_
  refine lv_iconst (v := (2 : Int32)) hx hb dL_law_1063 (by decide) ?_
  refine lv_iadd hx hb dL_law_1064 ?_
  refine va_sld hx hb hX hbl hbA h.2.2 (lk_ix (j := 2) (by decide) hk hL) dL_law_1065 ?_
  refine lk_cI F h (va_runV (As := [.int ((xs (nI k + (1 : Int32)).toNatClampNeg)), .int ((xs (nI k + (2 : Int32)).toNatClampNeg))]) (rest := []) ⟨hx, hb, hml, hown, hts⟩ (ad_X8_plan (D := D) (cy := cy) l F.1 ((xs (nI k + (1 : Int32)).toNatClampNeg)) ((xs (nI k + (2 : Int32)).toNatClampNeg)) σc _ (ps_plan ((xs (nI k + (1 : Int32)).toNatClampNeg)) ((xs (nI k + (2 : Int32)).toNatClampNeg)) σc σm R)) (cwV 2 hts gL_law_X8_plan rfl rfl rfl nd_X8_plan ⟨Nat.le_of_ble_eq_true rfl, Nat.le_of_ble_eq_true rfl⟩) (lk_pc F h [.int ((xs (nI k + (1 : Int32)).toNatClampNeg)), .int ((xs (nI k + (2 : Int32)).toNatClampNeg))]) rfl rfl hl.1 rfl (lv_room (Nat.le_of_ble_eq_true rfl)) dL_law_1066 hcl) (fun r1 σc1 H locs hq h => ?_)
  refine lv_aload_n hx hb dL_law_1069 rfl (lv_at hl 2 rfl) ?_
  refine lv_aload_n hx hb dL_law_1070 rfl (lv_at hl 0 rfl) ?_
  refine lv_iload_n hx hb dL_law_1071 rfl (lv_at hl 3 rfl) ?_
  refine lv_iconst (v := (1 : Int32)) hx hb dL_law_1072 (by decide) ?_
  refine lv_iadd hx hb dL_law_1073 ?_
  refine va_sld hx hb hX hbl hbA h.2.2 (lk_ix (j := 1) (by decide) hk hL) dL_law_1074 ?_
  refine lv_aload_n hx hb dL_law_1075 rfl (lv_at hl 0 rfl) ?_
  refine lv_iload_n hx hb dL_law_1076 rfl (lv_at hl 3 rfl) ?_
  refine lv_iconst (v := (2 : Int32)) hx hb dL_law_1077 (by decide) ?_
  refine lv_iadd hx hb dL_law_1078 ?_
  refine va_sld hx hb hX hbl hbA h.2.2 (lk_ix (j := 2) (by decide) hk hL) dL_law_1079 ?_
  refine lk_mI F h (va_runV (As := [.int ((xs (nI k + (1 : Int32)).toNatClampNeg)), .int ((xs (nI k + (2 : Int32)).toNatClampNeg))]) (rest := [.int r1]) ⟨hx, hb, hml, hown, hts⟩ (ad_X9_plan (D := D) (cy := cy) l F.2.1 ((xs (nI k + (1 : Int32)).toNatClampNeg)) ((xs (nI k + (2 : Int32)).toNatClampNeg)) σm _ hq) (cwV 2 hts gL_law_X9_plan rfl rfl rfl nd_X9_plan ⟨Nat.le_of_ble_eq_true rfl, Nat.le_of_ble_eq_true rfl⟩) (lk_pm F h [.int ((xs (nI k + (1 : Int32)).toNatClampNeg)), .int ((xs (nI k + (2 : Int32)).toNatClampNeg))]) rfl rfl hl.1 rfl (lv_room (Nat.le_of_ble_eq_true rfl)) dL_law_1080 hcl) (fun r2 σm1 H locs hq h => ?_)
  exact lv_icmp_eq (tgt := 1111) hx hb dL_law_1083 (by decide) (fun _ => K _ _ _ _ h hq.2) (fun w => absurd hq.1 w)
set_option maxHeartbeats 1000000 in
theorem lc_31 {p : Program} {l : Launch} {e : Env} {s : State} {m : MethodId} {below : List Frame} {meth : Method} {c : Code} {H : Heap} {locs : List Loc} {cells slots : Nat} {Q : State → Prop} {ls : Array Slot} {D : va_G} {cy : Nat → ClassId} {adc adm : Nat → Nat} {σc σm : hh_S} {b L k : Nat} {xs : Nat → Int32} (B : lk_B p s m meth c b L xs) (F : lk_F D cy adc adm s) (hk : k + 5 ≤ L) (hcl : cells ≤ 600000 ∧ slots ≤ 7302250) (h : lk_T D cy adc adm s σc σm H locs) (R : RR_s σc σm) (hl : lv_has ls 4 [(0, .ref b), (1, .ref (adc 0)), (2, .ref (adm 0)), (3, .int (nI k))]) (K : ∀ (u v : hh_S) (H1 : Heap) (locs1 : List Loc), lk_T D cy adc adm s u v H1 locs1 → RR_s u v → W p l e room_1 s m #[Value.ref b] below meth c H1 locs1 cells slots Q (F0 m 1111 ls [])) : W p l e room_1 s m #[Value.ref b] below meth c H locs cells slots Q (F0 m 1088 ls []) := by
  obtain ⟨hx, hb, hml, hown, hts, hX, hbl, hL⟩ := B
  have hbA : ¬ (fun q : Nat => s.heap.size ≤ q) b := Nat.not_le.mpr hbl
  refine lv_aload_n hx hb dL_law_1088 rfl (lv_at hl 1 rfl) ?_
  refine lv_aload_n hx hb dL_law_1089 rfl (lv_at hl 0 rfl) ?_
  refine lv_iload_n hx hb dL_law_1090 rfl (lv_at hl 3 rfl) ?_
  refine lv_iconst (v := (1 : Int32)) hx hb dL_law_1091 (by decide) ?_
  refine lv_iadd hx hb dL_law_1092 ?_
  refine va_sld hx hb hX hbl hbA h.2.2 (lk_ix (j := 1) (by decide) hk hL) dL_law_1093 ?_
  refine lk_cI F h (va_runV (As := [.int ((xs (nI k + (1 : Int32)).toNatClampNeg))]) (rest := []) ⟨hx, hb, hml, hown, hts⟩ (ad_X8_told (D := D) (cy := cy) l F.1 ((xs (nI k + (1 : Int32)).toNatClampNeg)) σc _ (ps_told ((xs (nI k + (1 : Int32)).toNatClampNeg)) σc σm R)) (cwV 1 hts gL_law_X8_told rfl rfl rfl nd_X8_told ⟨Nat.le_of_ble_eq_true rfl, Nat.le_of_ble_eq_true rfl⟩) (lk_pc F h [.int ((xs (nI k + (1 : Int32)).toNatClampNeg))]) rfl rfl hl.1 rfl (lv_room (Nat.le_of_ble_eq_true rfl)) dL_law_1094 hcl) (fun r1 σc1 H locs hq h => ?_)
  refine lv_aload_n hx hb dL_law_1097 rfl (lv_at hl 2 rfl) ?_
  refine lv_aload_n hx hb dL_law_1098 rfl (lv_at hl 0 rfl) ?_
  refine lv_iload_n hx hb dL_law_1099 rfl (lv_at hl 3 rfl) ?_
  refine lv_iconst (v := (1 : Int32)) hx hb dL_law_1100 (by decide) ?_
  refine lv_iadd hx hb dL_law_1101 ?_
  refine va_sld hx hb hX hbl hbA h.2.2 (lk_ix (j := 1) (by decide) hk hL) dL_law_1102 ?_
  refine lk_mI F h (va_runV (As := [.int ((xs (nI k + (1 : Int32)).toNatClampNeg))]) (rest := [.int r1]) ⟨hx, hb, hml, hown, hts⟩ (ad_X9_told (D := D) (cy := cy) l F.2.1 ((xs (nI k + (1 : Int32)).toNatClampNeg)) σm _ hq) (cwV 1 hts gL_law_X9_told rfl rfl rfl nd_X9_told ⟨Nat.le_of_ble_eq_true rfl, Nat.le_of_ble_eq_true rfl⟩) (lk_pm F h [.int ((xs (nI k + (1 : Int32)).toNatClampNeg))]) rfl rfl hl.1 rfl (lv_room (Nat.le_of_ble_eq_true rfl)) dL_law_1103 hcl) (fun r2 σm1 H locs hq h => ?_)
  exact lv_icmp_eq (tgt := 1111) hx hb dL_law_1106 (by decide) (fun _ => K _ _ _ _ h hq.2) (fun w => absurd hq.1 w)
