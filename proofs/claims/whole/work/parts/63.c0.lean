set_option maxHeartbeats 1000000 in
theorem lc_0 {p : Program} {l : Launch} {e : Env} {s : State} {m : MethodId} {below : List Frame} {meth : Method} {c : Code} {H : Heap} {locs : List Loc} {cells slots : Nat} {Q : State → Prop} {ls : Array Slot} {D : va_G} {cy : Nat → ClassId} {adc adm : Nat → Nat} {σc σm : hh_S} {b L k : Nat} {xs : Nat → Int32} (B : lk_B p s m meth c b L xs) (F : lk_F D cy adc adm s) (hk : k + 5 ≤ L) (hcl : cells ≤ 600000 ∧ slots ≤ 7302250) (h : lk_T D cy adc adm s σc σm H locs) (R : RR_s σc σm) (hl : lv_has ls 4 [(0, .ref b), (1, .ref (adc 0)), (2, .ref (adm 0)), (3, .int (nI k))]) (K : ∀ (u v : hh_S) (H1 : Heap) (locs1 : List Loc), lk_T D cy adc adm s u v H1 locs1 → RR_s u v → W p l e room_1 s m #[Value.ref b] below meth c H1 locs1 cells slots Q (F0 m 1111 ls [])) : W p l e room_1 s m #[Value.ref b] below meth c H locs cells slots Q (F0 m 176 ls []) := by
  obtain ⟨hx, hb, hml, hown, hts, hX, hbl, hL⟩ := B
  have hbA : ¬ (fun q : Nat => s.heap.size ≤ q) b := Nat.not_le.mpr hbl
  refine lv_aload_n hx hb dL_law_176 rfl (lv_at hl 1 rfl) ?_
  refine lv_aload_n hx hb dL_law_177 rfl (lv_at hl 0 rfl) ?_
  refine lv_iload_n hx hb dL_law_178 rfl (lv_at hl 3 rfl) ?_
  refine lv_iconst (v := (1 : Int32)) hx hb dL_law_179 (by decide) ?_
  refine lv_iadd hx hb dL_law_180 ?_
  refine va_sld hx hb hX hbl hbA h.2.2 (lk_ix (j := 1) (by decide) hk hL) dL_law_181 ?_
  refine lk_cI F h (va_runV (As := [.int ((xs (nI k + (1 : Int32)).toNatClampNeg))]) (rest := []) ⟨hx, hb, hml, hown, hts⟩ (ad_X8_say (D := D) (cy := cy) l F.1 ((xs (nI k + (1 : Int32)).toNatClampNeg)) σc _ (ps_say ((xs (nI k + (1 : Int32)).toNatClampNeg)) σc σm R)) (cwV 1 hts gL_law_X8_say rfl rfl rfl nd_X8_say ⟨Nat.le_of_ble_eq_true rfl, Nat.le_of_ble_eq_true rfl⟩) (lk_pc F h [.int ((xs (nI k + (1 : Int32)).toNatClampNeg))]) rfl rfl hl.1 rfl (lv_room (Nat.le_of_ble_eq_true rfl)) dL_law_182 hcl) (fun r1 σc1 H locs hq h => ?_)
  refine lv_aload_n hx hb dL_law_185 rfl (lv_at hl 2 rfl) ?_
  refine lv_aload_n hx hb dL_law_186 rfl (lv_at hl 0 rfl) ?_
  refine lv_iload_n hx hb dL_law_187 rfl (lv_at hl 3 rfl) ?_
  refine lv_iconst (v := (1 : Int32)) hx hb dL_law_188 (by decide) ?_
  refine lv_iadd hx hb dL_law_189 ?_
  refine va_sld hx hb hX hbl hbA h.2.2 (lk_ix (j := 1) (by decide) hk hL) dL_law_190 ?_
  refine lk_mI F h (va_runV (As := [.int ((xs (nI k + (1 : Int32)).toNatClampNeg))]) (rest := [.int r1]) ⟨hx, hb, hml, hown, hts⟩ (ad_X9_say (D := D) (cy := cy) l F.2.1 ((xs (nI k + (1 : Int32)).toNatClampNeg)) σm _ hq) (cwV 1 hts gL_law_X9_say rfl rfl rfl nd_X9_say ⟨Nat.le_of_ble_eq_true rfl, Nat.le_of_ble_eq_true rfl⟩) (lk_pm F h [.int ((xs (nI k + (1 : Int32)).toNatClampNeg))]) rfl rfl hl.1 rfl (lv_room (Nat.le_of_ble_eq_true rfl)) dL_law_191 hcl) (fun r2 σm1 H locs hq h => ?_)
  exact lv_icmp_eq (tgt := 1111) hx hb dL_law_194 (by decide) (fun _ => K _ _ _ _ h hq.2) (fun w => absurd hq.1 w)
set_option maxHeartbeats 1000000 in
theorem lc_1 {p : Program} {l : Launch} {e : Env} {s : State} {m : MethodId} {below : List Frame} {meth : Method} {c : Code} {H : Heap} {locs : List Loc} {cells slots : Nat} {Q : State → Prop} {ls : Array Slot} {D : va_G} {cy : Nat → ClassId} {adc adm : Nat → Nat} {σc σm : hh_S} {b L k : Nat} {xs : Nat → Int32} (B : lk_B p s m meth c b L xs) (F : lk_F D cy adc adm s) (hk : k + 5 ≤ L) (hcl : cells ≤ 600000 ∧ slots ≤ 7302250) (h : lk_T D cy adc adm s σc σm H locs) (R : RR_s σc σm) (hl : lv_has ls 4 [(0, .ref b), (1, .ref (adc 0)), (2, .ref (adm 0)), (3, .int (nI k))]) (K : ∀ (u v : hh_S) (H1 : Heap) (locs1 : List Loc), lk_T D cy adc adm s u v H1 locs1 → RR_s u v → W p l e room_1 s m #[Value.ref b] below meth c H1 locs1 cells slots Q (F0 m 1111 ls [])) : W p l e room_1 s m #[Value.ref b] below meth c H locs cells slots Q (F0 m 199 ls []) := by
  obtain ⟨hx, hb, hml, hown, hts, hX, hbl, hL⟩ := B
  have hbA : ¬ (fun q : Nat => s.heap.size ≤ q) b := Nat.not_le.mpr hbl
  refine lv_aload_n hx hb dL_law_199 rfl (lv_at hl 1 rfl) ?_
  refine lk_cI F h (va_runV (As := []) (rest := []) ⟨hx, hb, hml, hown, hts⟩ (ad_X8_wipe (D := D) (cy := cy) l F.1 σc _ (ps_wipe σc σm R)) (cwV 0 hts gL_law_X8_wipe rfl rfl rfl nd_X8_wipe ⟨Nat.le_of_ble_eq_true rfl, Nat.le_of_ble_eq_true rfl⟩) (lk_pc F h []) rfl rfl hl.1 rfl (lv_room (Nat.le_of_ble_eq_true rfl)) dL_law_200 hcl) (fun r1 σc1 H locs hq h => ?_)
  refine lv_aload_n hx hb dL_law_203 rfl (lv_at hl 2 rfl) ?_
  refine lk_mI F h (va_runV (As := []) (rest := [.int r1]) ⟨hx, hb, hml, hown, hts⟩ (ad_X9_wipe (D := D) (cy := cy) l F.2.1 σm _ hq) (cwV 0 hts gL_law_X9_wipe rfl rfl rfl nd_X9_wipe ⟨Nat.le_of_ble_eq_true rfl, Nat.le_of_ble_eq_true rfl⟩) (lk_pm F h []) rfl rfl hl.1 rfl (lv_room (Nat.le_of_ble_eq_true rfl)) dL_law_204 hcl) (fun r2 σm1 H locs hq h => ?_)
  exact lv_icmp_eq (tgt := 1111) hx hb dL_law_207 (by decide) (fun _ => K _ _ _ _ h hq.2) (fun w => absurd hq.1 w)
set_option maxHeartbeats 1000000 in
theorem lc_2 {p : Program} {l : Launch} {e : Env} {s : State} {m : MethodId} {below : List Frame} {meth : Method} {c : Code} {H : Heap} {locs : List Loc} {cells slots : Nat} {Q : State → Prop} {ls : Array Slot} {D : va_G} {cy : Nat → ClassId} {adc adm : Nat → Nat} {σc σm : hh_S} {b L k : Nat} {xs : Nat → Int32} (B : lk_B p s m meth c b L xs) (F : lk_F D cy adc adm s) (hk : k + 5 ≤ L) (hcl : cells ≤ 600000 ∧ slots ≤ 7302250) (h : lk_T D cy adc adm s σc σm H locs) (R : RR_s σc σm) (hl : lv_has ls 4 [(0, .ref b), (1, .ref (adc 0)), (2, .ref (adm 0)), (3, .int (nI k))]) (K : ∀ (u v : hh_S) (H1 : Heap) (locs1 : List Loc), lk_T D cy adc adm s u v H1 locs1 → RR_s u v → W p l e room_1 s m #[Value.ref b] below meth c H1 locs1 cells slots Q (F0 m 1111 ls [])) : W p l e room_1 s m #[Value.ref b] below meth c H locs cells slots Q (F0 m 212 ls []) := by
  obtain ⟨hx, hb, hml, hown, hts, hX, hbl, hL⟩ := B
  have hbA : ¬ (fun q : Nat => s.heap.size ≤ q) b := Nat.not_le.mpr hbl
  refine lv_aload_n hx hb dL_law_212 rfl (lv_at hl 1 rfl) ?_
  refine lk_cI F h (va_runV (As := []) (rest := []) ⟨hx, hb, hml, hown, hts⟩ (ad_X8_fault (D := D) (cy := cy) l F.1 σc _ (ps_fault σc σm R)) (cwV 0 hts gL_law_X8_fault rfl rfl rfl nd_X8_fault ⟨Nat.le_of_ble_eq_true rfl, Nat.le_of_ble_eq_true rfl⟩) (lk_pc F h []) rfl rfl hl.1 rfl (lv_room (Nat.le_of_ble_eq_true rfl)) dL_law_213 hcl) (fun r1 σc1 H locs hq h => ?_)
  refine lv_aload_n hx hb dL_law_216 rfl (lv_at hl 2 rfl) ?_
  refine lk_mI F h (va_runV (As := []) (rest := [.int r1]) ⟨hx, hb, hml, hown, hts⟩ (ad_X9_fault (D := D) (cy := cy) l F.2.1 σm _ hq) (cwV 0 hts gL_law_X9_fault rfl rfl rfl nd_X9_fault ⟨Nat.le_of_ble_eq_true rfl, Nat.le_of_ble_eq_true rfl⟩) (lk_pm F h []) rfl rfl hl.1 rfl (lv_room (Nat.le_of_ble_eq_true rfl)) dL_law_217 hcl) (fun r2 σm1 H locs hq h => ?_)
  exact lv_icmp_eq (tgt := 1111) hx hb dL_law_220 (by decide) (fun _ => K _ _ _ _ h hq.2) (fun w => absurd hq.1 w)
set_option maxHeartbeats 1000000 in
theorem lc_3 {p : Program} {l : Launch} {e : Env} {s : State} {m : MethodId} {below : List Frame} {meth : Method} {c : Code} {H : Heap} {locs : List Loc} {cells slots : Nat} {Q : State → Prop} {ls : Array Slot} {D : va_G} {cy : Nat → ClassId} {adc adm : Nat → Nat} {σc σm : hh_S} {b L k : Nat} {xs : Nat → Int32} (B : lk_B p s m meth c b L xs) (F : lk_F D cy adc adm s) (hk : k + 5 ≤ L) (hcl : cells ≤ 600000 ∧ slots ≤ 7302250) (h : lk_T D cy adc adm s σc σm H locs) (R : RR_s σc σm) (hl : lv_has ls 4 [(0, .ref b), (1, .ref (adc 0)), (2, .ref (adm 0)), (3, .int (nI k))]) (K : ∀ (u v : hh_S) (H1 : Heap) (locs1 : List Loc), lk_T D cy adc adm s u v H1 locs1 → RR_s u v → W p l e room_1 s m #[Value.ref b] below meth c H1 locs1 cells slots Q (F0 m 1111 ls [])) : W p l e room_1 s m #[Value.ref b] below meth c H locs cells slots Q (F0 m 225 ls []) := by
  obtain ⟨hx, hb, hml, hown, hts, hX, hbl, hL⟩ := B
  have hbA : ¬ (fun q : Nat => s.heap.size ≤ q) b := Nat.not_le.mpr hbl
  refine lv_aload_n hx hb dL_law_225 rfl (lv_at hl 1 rfl) ?_
  refine lk_cI F h (va_runV (As := []) (rest := []) ⟨hx, hb, hml, hown, hts⟩ (ad_X8_task (D := D) (cy := cy) l F.1 σc _ (ps_task σc σm R)) (cwV 0 hts gL_law_X8_task rfl rfl rfl nd_X8_task ⟨Nat.le_of_ble_eq_true rfl, Nat.le_of_ble_eq_true rfl⟩) (lk_pc F h []) rfl rfl hl.1 rfl (lv_room (Nat.le_of_ble_eq_true rfl)) dL_law_226 hcl) (fun r1 σc1 H locs hq h => ?_)
  refine lv_aload_n hx hb dL_law_229 rfl (lv_at hl 2 rfl) ?_
  refine lk_mI F h (va_runV (As := []) (rest := [.int r1]) ⟨hx, hb, hml, hown, hts⟩ (ad_X9_task (D := D) (cy := cy) l F.2.1 σm _ hq) (cwV 0 hts gL_law_X9_task rfl rfl rfl nd_X9_task ⟨Nat.le_of_ble_eq_true rfl, Nat.le_of_ble_eq_true rfl⟩) (lk_pm F h []) rfl rfl hl.1 rfl (lv_room (Nat.le_of_ble_eq_true rfl)) dL_law_230 hcl) (fun r2 σm1 H locs hq h => ?_)
  exact lv_icmp_eq (tgt := 1111) hx hb dL_law_233 (by decide) (fun _ => K _ _ _ _ h hq.2) (fun w => absurd hq.1 w)
set_option maxHeartbeats 1000000 in
theorem lc_4 {p : Program} {l : Launch} {e : Env} {s : State} {m : MethodId} {below : List Frame} {meth : Method} {c : Code} {H : Heap} {locs : List Loc} {cells slots : Nat} {Q : State → Prop} {ls : Array Slot} {D : va_G} {cy : Nat → ClassId} {adc adm : Nat → Nat} {σc σm : hh_S} {b L k : Nat} {xs : Nat → Int32} (B : lk_B p s m meth c b L xs) (F : lk_F D cy adc adm s) (hk : k + 5 ≤ L) (hcl : cells ≤ 600000 ∧ slots ≤ 7302250) (h : lk_T D cy adc adm s σc σm H locs) (R : RR_s σc σm) (hl : lv_has ls 4 [(0, .ref b), (1, .ref (adc 0)), (2, .ref (adm 0)), (3, .int (nI k))]) (K : ∀ (u v : hh_S) (H1 : Heap) (locs1 : List Loc), lk_T D cy adc adm s u v H1 locs1 → RR_s u v → W p l e room_1 s m #[Value.ref b] below meth c H1 locs1 cells slots Q (F0 m 1111 ls [])) : W p l e room_1 s m #[Value.ref b] below meth c H locs cells slots Q (F0 m 238 ls []) := by
  obtain ⟨hx, hb, hml, hown, hts, hX, hbl, hL⟩ := B
  have hbA : ¬ (fun q : Nat => s.heap.size ≤ q) b := Nat.not_le.mpr hbl
  refine lv_aload_n hx hb dL_law_238 rfl (lv_at hl 1 rfl) ?_
  refine lv_aload_n hx hb dL_law_239 rfl (lv_at hl 0 rfl) ?_
  refine lv_iload_n hx hb dL_law_240 rfl (lv_at hl 3 rfl) ?_
  refine lv_iconst (v := (1 : Int32)) hx hb dL_law_241 (by decide) ?_
  refine lv_iadd hx hb dL_law_242 ?_
  refine va_sld hx hb hX hbl hbA h.2.2 (lk_ix (j := 1) (by decide) hk hL) dL_law_243 ?_
  refine lv_aload_n hx hb dL_law_244 rfl (lv_at hl 0 rfl) ?_
  refine lv_iload_n hx hb dL_law_245 rfl (lv_at hl 3 rfl) ?_
  refine lv_iconst (v := (2 : Int32)) hx hb dL_law_246 (by decide) ?_
  refine lv_iadd hx hb dL_law_247 ?_
  refine va_sld hx hb hX hbl hbA h.2.2 (lk_ix (j := 2) (by decide) hk hL) dL_law_248 ?_
  refine lk_cI F h (va_runV (As := [.int ((xs (nI k + (1 : Int32)).toNatClampNeg)), .int ((xs (nI k + (2 : Int32)).toNatClampNeg))]) (rest := []) ⟨hx, hb, hml, hown, hts⟩ (ad_X8_step (D := D) (cy := cy) l F.1 ((xs (nI k + (1 : Int32)).toNatClampNeg)) ((xs (nI k + (2 : Int32)).toNatClampNeg)) σc _ (ps_step ((xs (nI k + (1 : Int32)).toNatClampNeg)) ((xs (nI k + (2 : Int32)).toNatClampNeg)) σc σm R)) (cwV 2 hts gL_law_X8_step rfl rfl rfl nd_X8_step ⟨Nat.le_of_ble_eq_true rfl, Nat.le_of_ble_eq_true rfl⟩) (lk_pc F h [.int ((xs (nI k + (1 : Int32)).toNatClampNeg)), .int ((xs (nI k + (2 : Int32)).toNatClampNeg))]) rfl rfl hl.1 rfl (lv_room (Nat.le_of_ble_eq_true rfl)) dL_law_249 hcl) (fun r1 σc1 H locs hq h => ?_)
  refine lv_aload_n hx hb dL_law_252 rfl (lv_at hl 2 rfl) ?_
  refine lv_aload_n hx hb dL_law_253 rfl (lv_at hl 0 rfl) ?_
  refine lv_iload_n hx hb dL_law_254 rfl (lv_at hl 3 rfl) ?_
  refine lv_iconst (v := (1 : Int32)) hx hb dL_law_255 (by decide) ?_
  refine lv_iadd hx hb dL_law_256 ?_
  refine va_sld hx hb hX hbl hbA h.2.2 (lk_ix (j := 1) (by decide) hk hL) dL_law_257 ?_
  refine lv_aload_n hx hb dL_law_258 rfl (lv_at hl 0 rfl) ?_
  refine lv_iload_n hx hb dL_law_259 rfl (lv_at hl 3 rfl) ?_
  refine lv_iconst (v := (2 : Int32)) hx hb dL_law_260 (by decide) ?_
  refine lv_iadd hx hb dL_law_261 ?_
  refine va_sld hx hb hX hbl hbA h.2.2 (lk_ix (j := 2) (by decide) hk hL) dL_law_262 ?_
  refine lk_mI F h (va_runV (As := [.int ((xs (nI k + (1 : Int32)).toNatClampNeg)), .int ((xs (nI k + (2 : Int32)).toNatClampNeg))]) (rest := [.int r1]) ⟨hx, hb, hml, hown, hts⟩ (ad_X9_step (D := D) (cy := cy) l F.2.1 ((xs (nI k + (1 : Int32)).toNatClampNeg)) ((xs (nI k + (2 : Int32)).toNatClampNeg)) σm _ hq) (cwV 2 hts gL_law_X9_step rfl rfl rfl nd_X9_step ⟨Nat.le_of_ble_eq_true rfl, Nat.le_of_ble_eq_true rfl⟩) (lk_pm F h [.int ((xs (nI k + (1 : Int32)).toNatClampNeg)), .int ((xs (nI k + (2 : Int32)).toNatClampNeg))]) rfl rfl hl.1 rfl (lv_room (Nat.le_of_ble_eq_true rfl)) dL_law_263 hcl) (fun r2 σm1 H locs hq h => ?_)
  exact lv_icmp_eq (tgt := 1111) hx hb dL_law_266 (by decide) (fun _ => K _ _ _ _ h hq.2) (fun w => absurd hq.1 w)
set_option maxHeartbeats 1000000 in
theorem lc_5 {p : Program} {l : Launch} {e : Env} {s : State} {m : MethodId} {below : List Frame} {meth : Method} {c : Code} {H : Heap} {locs : List Loc} {cells slots : Nat} {Q : State → Prop} {ls : Array Slot} {D : va_G} {cy : Nat → ClassId} {adc adm : Nat → Nat} {σc σm : hh_S} {b L k : Nat} {xs : Nat → Int32} (B : lk_B p s m meth c b L xs) (F : lk_F D cy adc adm s) (hk : k + 5 ≤ L) (hcl : cells ≤ 600000 ∧ slots ≤ 7302250) (h : lk_T D cy adc adm s σc σm H locs) (R : RR_s σc σm) (hl : lv_has ls 4 [(0, .ref b), (1, .ref (adc 0)), (2, .ref (adm 0)), (3, .int (nI k))]) (K : ∀ (u v : hh_S) (H1 : Heap) (locs1 : List Loc), lk_T D cy adc adm s u v H1 locs1 → RR_s u v → W p l e room_1 s m #[Value.ref b] below meth c H1 locs1 cells slots Q (F0 m 1111 ls [])) : W p l e room_1 s m #[Value.ref b] below meth c H locs cells slots Q (F0 m 271 ls []) := by
  obtain ⟨hx, hb, hml, hown, hts, hX, hbl, hL⟩ := B
  have hbA : ¬ (fun q : Nat => s.heap.size ≤ q) b := Nat.not_le.mpr hbl
  refine lv_aload_n hx hb dL_law_271 rfl (lv_at hl 1 rfl) ?_
  refine lv_aload_n hx hb dL_law_272 rfl (lv_at hl 0 rfl) ?_
  refine lv_iload_n hx hb dL_law_273 rfl (lv_at hl 3 rfl) ?_
  refine lv_iconst (v := (1 : Int32)) hx hb dL_law_274 (by decide) ?_
  refine lv_iadd hx hb dL_law_275 ?_
  refine va_sld hx hb hX hbl hbA h.2.2 (lk_ix (j := 1) (by decide) hk hL) dL_law_276 ?_
  refine lv_aload_n hx hb dL_law_277 rfl (lv_at hl 0 rfl) ?_
  refine lv_iload_n hx hb dL_law_278 rfl (lv_at hl 3 rfl) ?_
  refine lv_iconst (v := (2 : Int32)) hx hb dL_law_279 (by decide) ?_
  refine lv_iadd hx hb dL_law_280 ?_
  refine va_sld hx hb hX hbl hbA h.2.2 (lk_ix (j := 2) (by decide) hk hL) dL_law_281 ?_
  refine lk_cI F h (va_runV (As := [.int ((xs (nI k + (1 : Int32)).toNatClampNeg)), .int ((xs (nI k + (2 : Int32)).toNatClampNeg))]) (rest := []) ⟨hx, hb, hml, hown, hts⟩ (ad_X8_item (D := D) (cy := cy) l F.1 ((xs (nI k + (1 : Int32)).toNatClampNeg)) ((xs (nI k + (2 : Int32)).toNatClampNeg)) σc _ (ps_item ((xs (nI k + (1 : Int32)).toNatClampNeg)) ((xs (nI k + (2 : Int32)).toNatClampNeg)) σc σm R)) (cwV 2 hts gL_law_X8_item rfl rfl rfl nd_X8_item ⟨Nat.le_of_ble_eq_true rfl, Nat.le_of_ble_eq_true rfl⟩) (lk_pc F h [.int ((xs (nI k + (1 : Int32)).toNatClampNeg)), .int ((xs (nI k + (2 : Int32)).toNatClampNeg))]) rfl rfl hl.1 rfl (lv_room (Nat.le_of_ble_eq_true rfl)) dL_law_282 hcl) (fun r1 σc1 H locs hq h => ?_)
  refine lv_aload_n hx hb dL_law_285 rfl (lv_at hl 2 rfl) ?_
  refine lv_aload_n hx hb dL_law_286 rfl (lv_at hl 0 rfl) ?_
  refine lv_iload_n hx hb dL_law_287 rfl (lv_at hl 3 rfl) ?_
  refine lv_iconst (v := (1 : Int32)) hx hb dL_law_288 (by decide) ?_
  refine lv_iadd hx hb dL_law_289 ?_
  refine va_sld hx hb hX hbl hbA h.2.2 (lk_ix (j := 1) (by decide) hk hL) dL_law_290 ?_
  refine lv_aload_n hx hb dL_law_291 rfl (lv_at hl 0 rfl) ?_
  refine lv_iload_n hx hb dL_law_292 rfl (lv_at hl 3 rfl) ?_
  refine lv_iconst (v := (2 : Int32)) hx hb dL_law_293 (by decide) ?_
  refine lv_iadd hx hb dL_law_294 ?_
  refine va_sld hx hb hX hbl hbA h.2.2 (lk_ix (j := 2) (by decide) hk hL) dL_law_295 ?_
  refine lk_mI F h (va_runV (As := [.int ((xs (nI k + (1 : Int32)).toNatClampNeg)), .int ((xs (nI k + (2 : Int32)).toNatClampNeg))]) (rest := [.int r1]) ⟨hx, hb, hml, hown, hts⟩ (ad_X9_item (D := D) (cy := cy) l F.2.1 ((xs (nI k + (1 : Int32)).toNatClampNeg)) ((xs (nI k + (2 : Int32)).toNatClampNeg)) σm _ hq) (cwV 2 hts gL_law_X9_item rfl rfl rfl nd_X9_item ⟨Nat.le_of_ble_eq_true rfl, Nat.le_of_ble_eq_true rfl⟩) (lk_pm F h [.int ((xs (nI k + (1 : Int32)).toNatClampNeg)), .int ((xs (nI k + (2 : Int32)).toNatClampNeg))]) rfl rfl hl.1 rfl (lv_room (Nat.le_of_ble_eq_true rfl)) dL_law_296 hcl) (fun r2 σm1 H locs hq h => ?_)
  exact lv_icmp_eq (tgt := 1111) hx hb dL_law_299 (by decide) (fun _ => K _ _ _ _ h hq.2) (fun w => absurd hq.1 w)
set_option maxHeartbeats 1000000 in
theorem lc_6 {p : Program} {l : Launch} {e : Env} {s : State} {m : MethodId} {below : List Frame} {meth : Method} {c : Code} {H : Heap} {locs : List Loc} {cells slots : Nat} {Q : State → Prop} {ls : Array Slot} {D : va_G} {cy : Nat → ClassId} {adc adm : Nat → Nat} {σc σm : hh_S} {b L k : Nat} {xs : Nat → Int32} (B : lk_B p s m meth c b L xs) (F : lk_F D cy adc adm s) (hk : k + 5 ≤ L) (hcl : cells ≤ 600000 ∧ slots ≤ 7302250) (h : lk_T D cy adc adm s σc σm H locs) (R : RR_s σc σm) (hl : lv_has ls 4 [(0, .ref b), (1, .ref (adc 0)), (2, .ref (adm 0)), (3, .int (nI k))]) (K : ∀ (u v : hh_S) (H1 : Heap) (locs1 : List Loc), lk_T D cy adc adm s u v H1 locs1 → RR_s u v → W p l e room_1 s m #[Value.ref b] below meth c H1 locs1 cells slots Q (F0 m 1111 ls [])) : W p l e room_1 s m #[Value.ref b] below meth c H locs cells slots Q (F0 m 304 ls []) := by
  obtain ⟨hx, hb, hml, hown, hts, hX, hbl, hL⟩ := B
  have hbA : ¬ (fun q : Nat => s.heap.size ≤ q) b := Nat.not_le.mpr hbl
  refine lv_aload_n hx hb dL_law_304 rfl (lv_at hl 1 rfl) ?_
  refine lv_aload_n hx hb dL_law_305 rfl (lv_at hl 0 rfl) ?_
  refine lv_iload_n hx hb dL_law_306 rfl (lv_at hl 3 rfl) ?_
  refine lv_iconst (v := (1 : Int32)) hx hb dL_law_307 (by decide) ?_
  refine lv_iadd hx hb dL_law_308 ?_
  refine va_sld hx hb hX hbl hbA h.2.2 (lk_ix (j := 1) (by decide) hk hL) dL_law_309 ?_
  refine lv_aload_n hx hb dL_law_310 rfl (lv_at hl 0 rfl) ?_
  refine lv_iload_n hx hb dL_law_311 rfl (lv_at hl 3 rfl) ?_
  refine lv_iconst (v := (2 : Int32)) hx hb dL_law_312 (by decide) ?_
  refine lv_iadd hx hb dL_law_313 ?_
  refine va_sld hx hb hX hbl hbA h.2.2 (lk_ix (j := 2) (by decide) hk hL) dL_law_314 ?_
  refine lk_cI F h (va_runV (As := [.int ((xs (nI k + (1 : Int32)).toNatClampNeg)), .int ((xs (nI k + (2 : Int32)).toNatClampNeg))]) (rest := []) ⟨hx, hb, hml, hown, hts⟩ (ad_X8_known (D := D) (cy := cy) l F.1 ((xs (nI k + (1 : Int32)).toNatClampNeg)) ((xs (nI k + (2 : Int32)).toNatClampNeg)) σc _ (ps_known ((xs (nI k + (1 : Int32)).toNatClampNeg)) ((xs (nI k + (2 : Int32)).toNatClampNeg)) σc σm R)) (cwV 2 hts gL_law_X8_known rfl rfl rfl nd_X8_known ⟨Nat.le_of_ble_eq_true rfl, Nat.le_of_ble_eq_true rfl⟩) (lk_pc F h [.int ((xs (nI k + (1 : Int32)).toNatClampNeg)), .int ((xs (nI k + (2 : Int32)).toNatClampNeg))]) rfl rfl hl.1 rfl (lv_room (Nat.le_of_ble_eq_true rfl)) dL_law_315 hcl) (fun r1 σc1 H locs hq h => ?_)
  refine lv_aload_n hx hb dL_law_318 rfl (lv_at hl 2 rfl) ?_
  refine lv_aload_n hx hb dL_law_319 rfl (lv_at hl 0 rfl) ?_
  refine lv_iload_n hx hb dL_law_320 rfl (lv_at hl 3 rfl) ?_
  refine lv_iconst (v := (1 : Int32)) hx hb dL_law_321 (by decide) ?_
  refine lv_iadd hx hb dL_law_322 ?_
  refine va_sld hx hb hX hbl hbA h.2.2 (lk_ix (j := 1) (by decide) hk hL) dL_law_323 ?_
  refine lv_aload_n hx hb dL_law_324 rfl (lv_at hl 0 rfl) ?_
  refine lv_iload_n hx hb dL_law_325 rfl (lv_at hl 3 rfl) ?_
  refine lv_iconst (v := (2 : Int32)) hx hb dL_law_326 (by decide) ?_
  refine lv_iadd hx hb dL_law_327 ?_
  refine va_sld hx hb hX hbl hbA h.2.2 (lk_ix (j := 2) (by decide) hk hL) dL_law_328 ?_
  refine lk_mI F h (va_runV (As := [.int ((xs (nI k + (1 : Int32)).toNatClampNeg)), .int ((xs (nI k + (2 : Int32)).toNatClampNeg))]) (rest := [.int r1]) ⟨hx, hb, hml, hown, hts⟩ (ad_X9_known (D := D) (cy := cy) l F.2.1 ((xs (nI k + (1 : Int32)).toNatClampNeg)) ((xs (nI k + (2 : Int32)).toNatClampNeg)) σm _ hq) (cwV 2 hts gL_law_X9_known rfl rfl rfl nd_X9_known ⟨Nat.le_of_ble_eq_true rfl, Nat.le_of_ble_eq_true rfl⟩) (lk_pm F h [.int ((xs (nI k + (1 : Int32)).toNatClampNeg)), .int ((xs (nI k + (2 : Int32)).toNatClampNeg))]) rfl rfl hl.1 rfl (lv_room (Nat.le_of_ble_eq_true rfl)) dL_law_329 hcl) (fun r2 σm1 H locs hq h => ?_)
  exact lv_icmp_eq (tgt := 1111) hx hb dL_law_332 (by decide) (fun _ => K _ _ _ _ h hq.2) (fun w => absurd hq.1 w)
set_option maxHeartbeats 1000000 in
theorem lc_7 {p : Program} {l : Launch} {e : Env} {s : State} {m : MethodId} {below : List Frame} {meth : Method} {c : Code} {H : Heap} {locs : List Loc} {cells slots : Nat} {Q : State → Prop} {ls : Array Slot} {D : va_G} {cy : Nat → ClassId} {adc adm : Nat → Nat} {σc σm : hh_S} {b L k : Nat} {xs : Nat → Int32} (B : lk_B p s m meth c b L xs) (F : lk_F D cy adc adm s) (hk : k + 5 ≤ L) (hcl : cells ≤ 600000 ∧ slots ≤ 7302250) (h : lk_T D cy adc adm s σc σm H locs) (R : RR_s σc σm) (hl : lv_has ls 4 [(0, .ref b), (1, .ref (adc 0)), (2, .ref (adm 0)), (3, .int (nI k))]) (K : ∀ (u v : hh_S) (H1 : Heap) (locs1 : List Loc), lk_T D cy adc adm s u v H1 locs1 → RR_s u v → W p l e room_1 s m #[Value.ref b] below meth c H1 locs1 cells slots Q (F0 m 1111 ls [])) : W p l e room_1 s m #[Value.ref b] below meth c H locs cells slots Q (F0 m 337 ls []) := by
  obtain ⟨hx, hb, hml, hown, hts, hX, hbl, hL⟩ := B
  have hbA : ¬ (fun q : Nat => s.heap.size ≤ q) b := Nat.not_le.mpr hbl
  refine lv_aload_n hx hb dL_law_337 rfl (lv_at hl 1 rfl) ?_
  refine lv_aload_n hx hb dL_law_338 rfl (lv_at hl 0 rfl) ?_
  refine lv_iload_n hx hb dL_law_339 rfl (lv_at hl 3 rfl) ?_
  refine lv_iconst (v := (1 : Int32)) hx hb dL_law_340 (by decide) ?_
  refine lv_iadd hx hb dL_law_341 ?_
  refine va_sld hx hb hX hbl hbA h.2.2 (lk_ix (j := 1) (by decide) hk hL) dL_law_342 ?_
  refine lv_aload_n hx hb dL_law_343 rfl (lv_at hl 0 rfl) ?_
  refine lv_iload_n hx hb dL_law_344 rfl (lv_at hl 3 rfl) ?_
  refine lv_iconst (v := (2 : Int32)) hx hb dL_law_345 (by decide) ?_
  refine lv_iadd hx hb dL_law_346 ?_
  refine va_sld hx hb hX hbl hbA h.2.2 (lk_ix (j := 2) (by decide) hk hL) dL_law_347 ?_
  refine lk_cI F h (va_runV (As := [.int ((xs (nI k + (1 : Int32)).toNatClampNeg)), .int ((xs (nI k + (2 : Int32)).toNatClampNeg))]) (rest := []) ⟨hx, hb, hml, hown, hts⟩ (ad_X8_settle (D := D) (cy := cy) l F.1 ((xs (nI k + (1 : Int32)).toNatClampNeg)) ((xs (nI k + (2 : Int32)).toNatClampNeg)) σc _ (ps_settle ((xs (nI k + (1 : Int32)).toNatClampNeg)) ((xs (nI k + (2 : Int32)).toNatClampNeg)) σc σm R)) (cwV 2 hts gL_law_X8_settle rfl rfl rfl nd_X8_settle ⟨Nat.le_of_ble_eq_true rfl, Nat.le_of_ble_eq_true rfl⟩) (lk_pc F h [.int ((xs (nI k + (1 : Int32)).toNatClampNeg)), .int ((xs (nI k + (2 : Int32)).toNatClampNeg))]) rfl rfl hl.1 rfl (lv_room (Nat.le_of_ble_eq_true rfl)) dL_law_348 hcl) (fun r1 σc1 H locs hq h => ?_)
  refine lv_aload_n hx hb dL_law_351 rfl (lv_at hl 2 rfl) ?_
  refine lv_aload_n hx hb dL_law_352 rfl (lv_at hl 0 rfl) ?_
  refine lv_iload_n hx hb dL_law_353 rfl (lv_at hl 3 rfl) ?_
  refine lv_iconst (v := (1 : Int32)) hx hb dL_law_354 (by decide) ?_
  refine lv_iadd hx hb dL_law_355 ?_
  refine va_sld hx hb hX hbl hbA h.2.2 (lk_ix (j := 1) (by decide) hk hL) dL_law_356 ?_
  refine lv_aload_n hx hb dL_law_357 rfl (lv_at hl 0 rfl) ?_
  refine lv_iload_n hx hb dL_law_358 rfl (lv_at hl 3 rfl) ?_
  refine lv_iconst (v := (2 : Int32)) hx hb dL_law_359 (by decide) ?_
  refine lv_iadd hx hb dL_law_360 ?_
  refine va_sld hx hb hX hbl hbA h.2.2 (lk_ix (j := 2) (by decide) hk hL) dL_law_361 ?_
  refine lk_mI F h (va_runV (As := [.int ((xs (nI k + (1 : Int32)).toNatClampNeg)), .int ((xs (nI k + (2 : Int32)).toNatClampNeg))]) (rest := [.int r1]) ⟨hx, hb, hml, hown, hts⟩ (ad_X9_settle (D := D) (cy := cy) l F.2.1 ((xs (nI k + (1 : Int32)).toNatClampNeg)) ((xs (nI k + (2 : Int32)).toNatClampNeg)) σm _ hq) (cwV 2 hts gL_law_X9_settle rfl rfl rfl nd_X9_settle ⟨Nat.le_of_ble_eq_true rfl, Nat.le_of_ble_eq_true rfl⟩) (lk_pm F h [.int ((xs (nI k + (1 : Int32)).toNatClampNeg)), .int ((xs (nI k + (2 : Int32)).toNatClampNeg))]) rfl rfl hl.1 rfl (lv_room (Nat.le_of_ble_eq_true rfl)) dL_law_362 hcl) (fun r2 σm1 H locs hq h => ?_)
  exact lv_icmp_eq (tgt := 1111) hx hb dL_law_365 (by decide) (fun _ => K _ _ _ _ h hq.2) (fun w => absurd hq.1 w)
