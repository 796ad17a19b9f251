theorem nd_X9_show : yX9_show.cls = RX9 ∧ yX9_show.cls ≠ "java/lang/invoke/MethodHandle" ∧ yX9_show.cls ≠ "java/lang/invoke/VarHandle" ∧ (parseMethodDescriptor yX9_show.desc).map (fun d => d.parameters.length) = some 2 := by decide +kernel
abbrev rm_X9_show : Room := { frames := 2, cells := 0, slots := 0, locals := 43 }
def wp_X9_show (x1 : Int32) (x2 : Int32) (σ : hh_S) (Q : Int32 → hh_S → Prop) : Prop := (wp_X9_isItem x1 σ (fun (r1 : Int32) (σ2 : hh_S) => ((¬ r1 = 0 → (wp_X9_in x2 (0 : Int32) (15 : Int32) σ2 (fun (r4 : Int32) (σ5 : hh_S) => ((¬ r4 = 0 → (vp_in x1 24 ∧ (∀ v8 : Int32, v8 = (hh_rA σ5 10 x1) → (vp_in x1 24 ∧ ∀ σ10 : hh_S, σ10 = hh_sA σ5 10 x1 x2 → (Q v8 σ10))))) ∧ (r4 = 0 → (Q (-2 : Int32) σ5)))))) ∧ (r1 = 0 → (Q (-1 : Int32) σ2)))))
theorem in_X9_show_X9 : ∀ w ∈ u_ws RX9 TX9 37, w ∈ wsX9_show := fun w h => List.mem_cons_of_mem _ (List.mem_append_right _ h)
set_option maxHeartbeats 4000000 in
set_option maxRecDepth 100000 in
theorem ad_X9_show {D : va_G} (l : Launch) {cy : Nat → ClassId} {ad : Nat → Nat} (J : hh_J hm_Y ad) (x1 : Int32) (x2 : Int32) (σ : hh_S) (Q : Int32 → hh_S → Prop) (hq : wp_X9_show x1 x2 σ Q) : Met l yX9_show wsX9_show rm_X9_show (va_Pc [.ref (ad 0), .int x1, .int x2] (hh_B D hh_cl hm_Y cy ad σ)) (va_Qi Q (hh_B D hh_cl hm_Y cy ad) (hh_A hm_Y ad)) 0 0 (hh_A hm_Y ad) := by
  refine Met.ofW (cc := cX9_show) (maxL := 4) (ret := (some .int)) (by decide) rfl ?_
  intro p e s m args below meth c s₁ B hml hv
  obtain ⟨hargs, hP0, hK0⟩ := hv
  have hr := B.returns
  have hlocks := B.notSynchronized
  have X : hh_X p m c cX9_show 4 s args wsX9_show RX9 D hh_cl hm_Y cy ad := ⟨⟨B.exec, B.bytes, hml, findClass_of_methodNamed B.named, atoms_spec (ws := wsX9_show) B.pre⟩, hK0, J⟩
  have hx := X.1.1
  have hb1 := X.1.2.1
  have h : hh_H D hh_cl hm_Y cy ad s.heap σ s.heap [] := ⟨hP0, va_S.rf⟩
  subst hargs
  refine hh_entry (vs := [.ref (ad 0), .int x1, .int x2]) (Nat.le_of_ble_eq_true rfl) (fun ls hl => ?_)
  have hl : lv_has ls 4 [(0, .ref (ad 0)), (1, .int x1), (2, .int x2)] := hl
  have hq : wp_X9_show x1 x2 σ Q := hq
  unfold wp_X9_show at hq
  refine lv_aload_n hx hb1 dX9_show_0 rfl (lv_at hl 0 rfl) ?_
  refine lv_iload_n hx hb1 dX9_show_1 rfl (lv_at hl 1 rfl) ?_
  refine hh_kI h (va_runV (As := [.int x1]) (rest := []) X.1 (ad_X9_isItem (D := D) l J x1 σ _ hq) (cwV 1 X.1.2.2.2.2 gX9_show_X9_isItem rfl rfl rfl nd_X9_isItem ⟨Nat.le_of_ble_eq_true rfl, Nat.le_of_ble_eq_true rfl⟩) (hh_preV X h fm_0_0 km_0 [.int x1]) rfl rfl hl.1 rfl (lv_room (Nat.le_of_ble_eq_true rfl)) dX9_show_2 ⟨Nat.le_of_ble_eq_true rfl, Nat.le_of_ble_eq_true rfl⟩) (fun r1 σ2 H locs hq h => ?_)
  refine lv_if_ne (tgt := 10) hx hb1 dX9_show_5 (by decide) (fun c3 => ?_) (fun c3 => ?_)
  · have hq := hq.1 c3
    refine lv_iload_n hx hb1 dX9_show_10 rfl (lv_at hl 2 rfl) ?_
    refine lv_iconst (v := (0 : Int32)) hx hb1 dX9_show_11 (by decide) ?_
    refine lv_bipush (v := (15 : Int32)) hx hb1 dX9_show_12 (by decide) ?_
    refine hh_kI h (va_runS (As := [.int x2, .int (0 : Int32), .int (15 : Int32)]) (rest := []) X.1 (ad_X9_in (D := D) l J x2 (0 : Int32) (15 : Int32) σ2 _ hq) (va_cwS 3 X.1.2.2.2.2 gX9_show_X9_in rfl rfl rfl nd_X9_in ⟨Nat.le_of_ble_eq_true rfl, Nat.le_of_ble_eq_true rfl⟩) (hh_preS X h [.int x2, .int (0 : Int32), .int (15 : Int32)]) rfl rfl hl.1 rfl (lv_room (Nat.le_of_ble_eq_true rfl)) dX9_show_14 ⟨Nat.le_of_ble_eq_true rfl, Nat.le_of_ble_eq_true rfl⟩) (fun r4 σ5 H locs hq h => ?_)
    refine lv_if_ne (tgt := 23) hx hb1 dX9_show_17 (by decide) (fun c6 => ?_) (fun c6 => ?_)
    · have hq := hq.1 c6
      refine lv_aload_n hx hb1 dX9_show_23 rfl (lv_at hl 0 rfl) ?_
      refine hh_getr X h fm_0_12 in_X9_show_X9 km_0 (by decide) (List.mem_of_getElem? (i := 1) rfl) rfl dX9_show_24 ?_
      refine lv_iload_n hx hb1 dX9_show_27 rfl (lv_at hl 1 rfl) ?_
      obtain ⟨h7, hq⟩ := hq
      refine hh_ild X h am_10 h7 dX9_show_28 ?_
      refine lv_topi (fun v8 ev8 => ?_)
      have hq := hq v8 ev8
      refine lv_istore_n (lv' := [(3, .int v8), (0, .ref (ad 0)), (1, .int x1), (2, .int x2)]) hx hb1 dX9_show_29 rfl hl (by decide) rfl (fun ls hl => ?_)
      refine lv_aload_n hx hb1 dX9_show_30 rfl (lv_at hl 1 rfl) ?_
      refine hh_getr X h fm_0_12 in_X9_show_X9 km_0 (by decide) (List.mem_of_getElem? (i := 1) rfl) rfl dX9_show_31 ?_
      refine lv_iload_n hx hb1 dX9_show_34 rfl (lv_at hl 2 rfl) ?_
      refine lv_iload_n hx hb1 dX9_show_35 rfl (lv_at hl 3 rfl) ?_
      obtain ⟨h9, hq⟩ := hq
      refine hh_ist X h am_10 h9 dX9_show_36 (fun σ10 H locs eσ10 h => ?_)
      have hq := hq σ10 eσ10
      refine lv_iload_n hx hb1 dX9_show_37 rfl (lv_at hl 0 rfl) ?_
      exact hh_iret X h hr hlocks hq dX9_show_38
    · have hq := hq.2 c6
      refine lv_bipush (v := (-2 : Int32)) hx hb1 dX9_show_20 (by decide) ?_
      exact hh_iret X h hr hlocks hq dX9_show_22
  · have hq := hq.2 c3
    refine lv_iconst (v := (-1 : Int32)) hx hb1 dX9_show_8 (by decide) ?_
    exact hh_iret X h hr hlocks hq dX9_show_9
theorem nd_X9_shareOf : yX9_shareOf.cls = RX9 ∧ yX9_shareOf.cls ≠ "java/lang/invoke/MethodHandle" ∧ yX9_shareOf.cls ≠ "java/lang/invoke/VarHandle" ∧ (parseMethodDescriptor yX9_shareOf.desc).map (fun d => d.parameters.length) = some 2 := by decide +kernel
abbrev rm_X9_shareOf : Room := { frames := 1, cells := 0, slots := 0, locals := 21 }
def wp_X9_shareOf (x1 : Int32) (x2 : Int32) (σ : hh_S) (Q : Int32 → hh_S → Prop) : Prop := (wp_X9_fixed x1 σ (fun (r1 : Int32) (σ2 : hh_S) => ((r1 < 0 → (((hh_I σ2 20) = 0 → (wp_X9_labelsOf x1 σ2 (fun (r5 : Int32) (σ6 : hh_S) => ((¬ r5 = 0) ∧ (Q ((1000000 : Int32) / r5) σ6))))) ∧ (¬ (hh_I σ2 20) = 0 → (((hh_I σ2 21) ≤ x1 → (wp_X9_labelsOf x1 σ2 (fun (r9 : Int32) (σ10 : hh_S) => ((¬ r9 = 0) ∧ (Q ((1000000 : Int32) / r9) σ10))))) ∧ (¬ (hh_I σ2 21) ≤ x1 → (vp_in (((4 : Int32) * x1) + x2) 96 ∧ (Q (hh_rA σ2 17 (((4 : Int32) * x1) + x2)) σ2))))))) ∧ (¬ r1 < 0 → ((¬ r1 = x2 → (Q (0 : Int32) σ2)) ∧ (r1 = x2 → (Q (1000000 : Int32) σ2)))))))
theorem in_X9_shareOf_X9 : ∀ w ∈ u_ws RX9 TX9 37, w ∈ wsX9_shareOf := fun w h => List.mem_cons_of_mem _ (List.mem_append_right _ h)
set_option maxHeartbeats 4000000 in
set_option maxRecDepth 100000 in
theorem ad_X9_shareOf {D : va_G} (l : Launch) {cy : Nat → ClassId} {ad : Nat → Nat} (J : hh_J hm_Y ad) (x1 : Int32) (x2 : Int32) (σ : hh_S) (Q : Int32 → hh_S → Prop) (hq : wp_X9_shareOf x1 x2 σ Q) : Met l yX9_shareOf wsX9_shareOf rm_X9_shareOf (va_Pc [.ref (ad 0), .int x1, .int x2] (hh_B D hh_cl hm_Y cy ad σ)) (va_Qi Q (hh_B D hh_cl hm_Y cy ad) (hh_A hm_Y ad)) 0 0 (hh_A hm_Y ad) := by
  refine Met.ofW (cc := cX9_shareOf) (maxL := 4) (ret := (some .int)) (by decide) rfl ?_
  intro p e s m args below meth c s₁ B hml hv
  obtain ⟨hargs, hP0, hK0⟩ := hv
  have hr := B.returns
  have hlocks := B.notSynchronized
  have X : hh_X p m c cX9_shareOf 4 s args wsX9_shareOf RX9 D hh_cl hm_Y cy ad := ⟨⟨B.exec, B.bytes, hml, findClass_of_methodNamed B.named, atoms_spec (ws := wsX9_shareOf) B.pre⟩, hK0, J⟩
  have hx := X.1.1
  have hb1 := X.1.2.1
  have h : hh_H D hh_cl hm_Y cy ad s.heap σ s.heap [] := ⟨hP0, va_S.rf⟩
  subst hargs
  refine hh_entry (vs := [.ref (ad 0), .int x1, .int x2]) (Nat.le_of_ble_eq_true rfl) (fun ls hl => ?_)
  have hl : lv_has ls 4 [(0, .ref (ad 0)), (1, .int x1), (2, .int x2)] := hl
  have hq : wp_X9_shareOf x1 x2 σ Q := hq
  unfold wp_X9_shareOf at hq
  refine lv_aload_n hx hb1 dX9_shareOf_0 rfl (lv_at hl 0 rfl) ?_
  refine lv_iload_n hx hb1 dX9_shareOf_1 rfl (lv_at hl 1 rfl) ?_
  refine hh_kI h (va_runV (As := [.int x1]) (rest := []) X.1 (ad_X9_fixed (D := D) l J x1 σ _ hq) (cwV 1 X.1.2.2.2.2 gX9_shareOf_X9_fixed rfl rfl rfl nd_X9_fixed ⟨Nat.le_of_ble_eq_true rfl, Nat.le_of_ble_eq_true rfl⟩) (hh_preV X h fm_0_0 km_0 [.int x1]) rfl rfl hl.1 rfl (lv_room (Nat.le_of_ble_eq_true rfl)) dX9_shareOf_2 ⟨Nat.le_of_ble_eq_true rfl, Nat.le_of_ble_eq_true rfl⟩) (fun r1 σ2 H locs hq h => ?_)
  refine lv_istore_n (lv' := [(3, .int r1), (0, .ref (ad 0)), (1, .int x1), (2, .int x2)]) hx hb1 dX9_shareOf_5 rfl hl (by decide) rfl (fun ls hl => ?_)
  refine lv_iload_n hx hb1 dX9_shareOf_6 rfl (lv_at hl 0 rfl) ?_
  refine lv_if_lt (tgt := 24) hx hb1 dX9_shareOf_7 (by decide) (fun c3 => ?_) (fun c3 => ?_)
  · have hq := hq.1 c3
    refine lv_aload_n hx hb1 dX9_shareOf_24 rfl (lv_at hl 1 rfl) ?_
    refine hh_geti X h (q := 20) fm_0_20 rfl in_X9_shareOf_X9 km_0 (by decide) (List.mem_of_getElem? (i := 2) rfl) rfl dX9_shareOf_25 ?_
    refine lv_if_eq (tgt := 52) hx hb1 dX9_shareOf_28 (by decide) (fun c4 => ?_) (fun c4 => ?_)
    · have hq := hq.1 c4
      refine lv_ldc (v := (1000000 : Int32)) hx hb1 X.1.2.2.2.1 (X.1.2.2.2.2 _ (List.mem_of_getElem? (i := 1) rfl)) dX9_shareOf_52 ?_
      refine lv_aload_n hx hb1 dX9_shareOf_54 rfl (lv_at hl 1 rfl) ?_
      refine lv_iload_n hx hb1 dX9_shareOf_55 rfl (lv_at hl 2 rfl) ?_
      refine hh_kI h (va_runV (As := [.int x1]) (rest := [.int (1000000 : Int32)]) X.1 (ad_X9_labelsOf (D := D) l J x1 σ2 _ hq) (cwV 1 X.1.2.2.2.2 gX9_shareOf_X9_labelsOf rfl rfl rfl nd_X9_labelsOf ⟨Nat.le_of_ble_eq_true rfl, Nat.le_of_ble_eq_true rfl⟩) (hh_preV X h fm_0_0 km_0 [.int x1]) rfl rfl hl.1 rfl (lv_room (Nat.le_of_ble_eq_true rfl)) dX9_shareOf_56 ⟨Nat.le_of_ble_eq_true rfl, Nat.le_of_ble_eq_true rfl⟩) (fun r5 σ6 H locs hq h => ?_)
      obtain ⟨h7, hq⟩ := hq
      refine lv_idiv hx hb1 dX9_shareOf_59 h7 ?_
      exact hh_iret X h hr hlocks hq dX9_shareOf_60
    · have hq := hq.2 c4
      refine lv_iload_n hx hb1 dX9_shareOf_31 rfl (lv_at hl 2 rfl) ?_
      refine lv_aload_n hx hb1 dX9_shareOf_32 rfl (lv_at hl 1 rfl) ?_
      refine hh_geti X h (q := 21) fm_0_21 rfl in_X9_shareOf_X9 km_0 (by decide) (List.mem_of_getElem? (i := 3) rfl) rfl dX9_shareOf_33 ?_
      refine lv_icmp_ge (tgt := 52) hx hb1 dX9_shareOf_36 (by decide) (fun c8 => ?_) (fun c8 => ?_)
      · have hq := hq.1 c8
        refine lv_ldc (v := (1000000 : Int32)) hx hb1 X.1.2.2.2.1 (X.1.2.2.2.2 _ (List.mem_of_getElem? (i := 1) rfl)) dX9_shareOf_52 ?_
        refine lv_aload_n hx hb1 dX9_shareOf_54 rfl (lv_at hl 1 rfl) ?_
        refine lv_iload_n hx hb1 dX9_shareOf_55 rfl (lv_at hl 2 rfl) ?_
        refine hh_kI h (va_runV (As := [.int x1]) (rest := [.int (1000000 : Int32)]) X.1 (ad_X9_labelsOf (D := D) l J x1 σ2 _ hq) (cwV 1 X.1.2.2.2.2 gX9_shareOf_X9_labelsOf rfl rfl rfl nd_X9_labelsOf ⟨Nat.le_of_ble_eq_true rfl, Nat.le_of_ble_eq_true rfl⟩) (hh_preV X h fm_0_0 km_0 [.int x1]) rfl rfl hl.1 rfl (lv_room (Nat.le_of_ble_eq_true rfl)) dX9_shareOf_56 ⟨Nat.le_of_ble_eq_true rfl, Nat.le_of_ble_eq_true rfl⟩) (fun r9 σ10 H locs hq h => ?_)
        obtain ⟨h11, hq⟩ := hq
        refine lv_idiv hx hb1 dX9_shareOf_59 h11 ?_
        exact hh_iret X h hr hlocks hq dX9_shareOf_60
      · have hq := hq.2 c8
        refine lv_aload_n hx hb1 dX9_shareOf_39 rfl (lv_at hl 1 rfl) ?_
        refine hh_getr X h fm_0_23 in_X9_shareOf_X9 km_0 (by decide) (List.mem_of_getElem? (i := 4) rfl) rfl dX9_shareOf_40 ?_
        refine lv_iconst (v := (4 : Int32)) hx hb1 dX9_shareOf_43 (by decide) ?_
        refine lv_iload_n hx hb1 dX9_shareOf_44 rfl (lv_at hl 2 rfl) ?_
        refine lv_imul hx hb1 dX9_shareOf_45 ?_
        refine lv_iload_n hx hb1 dX9_shareOf_46 rfl (lv_at hl 3 rfl) ?_
        refine lv_iadd hx hb1 dX9_shareOf_47 ?_
        obtain ⟨h12, hq⟩ := hq
        refine hh_ild X h am_17 h12 dX9_shareOf_48 ?_
        refine lv_goto (tgt := 60) hx hb1 dX9_shareOf_49 (by decide) ?_
        exact hh_iret X h hr hlocks hq dX9_shareOf_60
  · have hq := hq.2 c3
    refine lv_iload_n hx hb1 dX9_shareOf_10 rfl (lv_at hl 0 rfl) ?_
    refine lv_iload_n hx hb1 dX9_shareOf_11 rfl (lv_at hl 3 rfl) ?_
    refine lv_icmp_ne (tgt := 20) hx hb1 dX9_shareOf_12 (by decide) (fun c13 => ?_) (fun c13 => ?_)
    · have hq := hq.1 c13
      refine lv_iconst (v := (0 : Int32)) hx hb1 dX9_shareOf_20 (by decide) ?_
      refine lv_goto (tgt := 60) hx hb1 dX9_shareOf_21 (by decide) ?_
      exact hh_iret X h hr hlocks hq dX9_shareOf_60
    · have hq := hq.2 c13
      refine lv_ldc (v := (1000000 : Int32)) hx hb1 X.1.2.2.2.1 (X.1.2.2.2.2 _ (List.mem_of_getElem? (i := 1) rfl)) dX9_shareOf_15 ?_
      refine lv_goto (tgt := 60) hx hb1 dX9_shareOf_17 (by decide) ?_
      exact hh_iret X h hr hlocks hq dX9_shareOf_60
theorem nd_X9_endOf : yX9_endOf.cls = RX9 ∧ yX9_endOf.cls ≠ "java/lang/invoke/MethodHandle" ∧ yX9_endOf.cls ≠ "java/lang/invoke/VarHandle" ∧ (parseMethodDescriptor yX9_endOf.desc).map (fun d => d.parameters.length) = some 1 := by decide +kernel
abbrev rm_X9_endOf : Room := { frames := 2, cells := 0, slots := 0, locals := 44 }
def wq_X9_endOf_4 (x1 : Int32) (Q : Int32 → hh_S → Prop) (K4 : Int32 → Int32 → hh_S → Prop) (x2 : Int32) (x3 : Int32) (σ : hh_S) : Prop := (wp_X9_labelsOf x1 σ (fun (r1 : Int32) (σ2 : hh_S) => ((r1 ≤ x3 → (Q x2 σ2)) ∧ (¬ r1 ≤ x3 → (wp_X9_shareOf x1 x3 σ2 (fun (r4 : Int32) (σ5 : hh_S) => (wp_X9_shareOf x1 x2 σ5 (fun (r6 : Int32) (σ7 : hh_S) => ((r4 ≤ r6 → (K4 x2 (x3 + (1 : Int32)) σ7)) ∧ (¬ r4 ≤ r6 → (K4 x3 (x3 + (1 : Int32)) σ7)))))))))))
def wp_X9_endOf (x1 : Int32) (σ : hh_S) (Q : Int32 → hh_S → Prop) : Prop := (∃ n : Nat, hh_lp2 (wq_X9_endOf_4 x1 Q) n (0 : Int32) (1 : Int32) σ)
theorem in_X9_endOf_X9 : ∀ w ∈ u_ws RX9 TX9 37, w ∈ wsX9_endOf := fun w h => List.mem_cons_of_mem _ (List.mem_append_right _ h)
set_option maxHeartbeats 4000000 in
set_option maxRecDepth 100000 in
theorem ad_X9_endOf {D : va_G} (l : Launch) {cy : Nat → ClassId} {ad : Nat → Nat} (J : hh_J hm_Y ad) (x1 : Int32) (σ : hh_S) (Q : Int32 → hh_S → Prop) (hq : wp_X9_endOf x1 σ Q) : Met l yX9_endOf wsX9_endOf rm_X9_endOf (va_Pc [.ref (ad 0), .int x1] (hh_B D hh_cl hm_Y cy ad σ)) (va_Qi Q (hh_B D hh_cl hm_Y cy ad) (hh_A hm_Y ad)) 0 0 (hh_A hm_Y ad) := by
  refine Met.ofW (cc := cX9_endOf) (maxL := 4) (ret := (some .int)) (by decide) rfl ?_
  intro p e s m args below meth c s₁ B hml hv
  obtain ⟨hargs, hP0, hK0⟩ := hv
  have hr := B.returns
  have hlocks := B.notSynchronized
  have X : hh_X p m c cX9_endOf 4 s args wsX9_endOf RX9 D hh_cl hm_Y cy ad := ⟨⟨B.exec, B.bytes, hml, findClass_of_methodNamed B.named, atoms_spec (ws := wsX9_endOf) B.pre⟩, hK0, J⟩
  have hx := X.1.1
  have hb1 := X.1.2.1
  have h : hh_H D hh_cl hm_Y cy ad s.heap σ s.heap [] := ⟨hP0, va_S.rf⟩
  have lt_4 : ∀ (x1 : Int32) (n : Nat) (x2 : Int32) (x3 : Int32) (σ : hh_S) (H : Heap) (locs : List Loc) (ls : Array Slot), hh_lp2 (wq_X9_endOf_4 x1 Q) n x2 x3 σ → hh_H D hh_cl hm_Y cy ad s.heap σ H locs → lv_has ls 4 [(0, .ref (ad 0)), (1, .int x1), (2, .int x2), (3, .int x3)] → W p l e (headSpec wsX9_endOf rm_X9_endOf).room s m args below meth c H locs 0 0 (MQ below (va_Qi Q (hh_B D hh_cl hm_Y cy ad) (hh_A hm_Y ad)) args s 0 0 (hh_A hm_Y ad)) (F0 m 4 ls []) := by
    intro x1 n
    induction n with
    | zero => intro x2 x3 σ H locs ls hq h hl; exact hq.elim
    | succ n ih =>
      intro x2 x3 σ H locs ls hq h hl
      have hq : wq_X9_endOf_4 x1 Q (hh_lp2 (wq_X9_endOf_4 x1 Q) n) x2 x3 σ := hq
      unfold wq_X9_endOf_4 at hq
      refine lv_iload_n hx hb1 dX9_endOf_4 rfl (lv_at hl 3 rfl) ?_
      refine lv_aload_n hx hb1 dX9_endOf_5 rfl (lv_at hl 0 rfl) ?_
      refine lv_iload_n hx hb1 dX9_endOf_6 rfl (lv_at hl 1 rfl) ?_
      refine hh_kI h (va_runV (As := [.int x1]) (rest := [.int x3]) X.1 (ad_X9_labelsOf (D := D) l J x1 σ _ hq) (cwV 1 X.1.2.2.2.2 gX9_endOf_X9_labelsOf rfl rfl rfl nd_X9_labelsOf ⟨Nat.le_of_ble_eq_true rfl, Nat.le_of_ble_eq_true rfl⟩) (hh_preV X h fm_0_0 km_0 [.int x1]) rfl rfl hl.1 rfl (lv_room (Nat.le_of_ble_eq_true rfl)) dX9_endOf_7 ⟨Nat.le_of_ble_eq_true rfl, Nat.le_of_ble_eq_true rfl⟩) (fun r1 σ2 H locs hq h => ?_)
      refine lv_icmp_ge (tgt := 40) hx hb1 dX9_endOf_10 (by decide) (fun c3 => ?_) (fun c3 => ?_)
      · have hq := hq.1 c3
        refine lv_iload_n hx hb1 dX9_endOf_40 rfl (lv_at hl 2 rfl) ?_
        exact hh_iret X h hr hlocks hq dX9_endOf_41
      · have hq := hq.2 c3
        refine lv_aload_n hx hb1 dX9_endOf_13 rfl (lv_at hl 0 rfl) ?_
        refine lv_iload_n hx hb1 dX9_endOf_14 rfl (lv_at hl 1 rfl) ?_
        refine lv_iload_n hx hb1 dX9_endOf_15 rfl (lv_at hl 3 rfl) ?_
        refine hh_kI h (va_runV (As := [.int x1, .int x3]) (rest := []) X.1 (ad_X9_shareOf (D := D) l J x1 x3 σ2 _ hq) (cwV 2 X.1.2.2.2.2 gX9_endOf_X9_shareOf rfl rfl rfl nd_X9_shareOf ⟨Nat.le_of_ble_eq_true rfl, Nat.le_of_ble_eq_true rfl⟩) (hh_preV X h fm_0_0 km_0 [.int x1, .int x3]) rfl rfl hl.1 rfl (lv_room (Nat.le_of_ble_eq_true rfl)) dX9_endOf_16 ⟨Nat.le_of_ble_eq_true rfl, Nat.le_of_ble_eq_true rfl⟩) (fun r4 σ5 H locs hq h => ?_)
        refine lv_aload_n hx hb1 dX9_endOf_19 rfl (lv_at hl 0 rfl) ?_
        refine lv_iload_n hx hb1 dX9_endOf_20 rfl (lv_at hl 1 rfl) ?_
        refine lv_iload_n hx hb1 dX9_endOf_21 rfl (lv_at hl 2 rfl) ?_
        refine hh_kI h (va_runV (As := [.int x1, .int x2]) (rest := [.int r4]) X.1 (ad_X9_shareOf (D := D) l J x1 x2 σ5 _ hq) (cwV 2 X.1.2.2.2.2 gX9_endOf_X9_shareOf rfl rfl rfl nd_X9_shareOf ⟨Nat.le_of_ble_eq_true rfl, Nat.le_of_ble_eq_true rfl⟩) (hh_preV X h fm_0_0 km_0 [.int x1, .int x2]) rfl rfl hl.1 rfl (lv_room (Nat.le_of_ble_eq_true rfl)) dX9_endOf_22 ⟨Nat.le_of_ble_eq_true rfl, Nat.le_of_ble_eq_true rfl⟩) (fun r6 σ7 H locs hq h => ?_)
        refine lv_icmp_le (tgt := 32) hx hb1 dX9_endOf_25 (by decide) (fun c8 => ?_) (fun c8 => ?_)
        · have hq := hq.1 c8
          refine lv_iload_n hx hb1 dX9_endOf_32 rfl (lv_at hl 2 rfl) ?_
          refine lv_istore_n (lv' := [(2, .int x2), (0, .ref (ad 0)), (1, .int x1), (3, .int x3)]) hx hb1 dX9_endOf_33 rfl hl (by decide) rfl (fun ls hl => ?_)
          refine lv_iinc (v := (x3 + (1 : Int32))) (lv' := [(3, .int (x3 + (1 : Int32))), (2, .int x2), (0, .ref (ad 0)), (1, .int x1)]) hx hb1 dX9_endOf_34 hl (k := 3) rfl rfl (by decide) rfl (fun ls hl => ?_)
          refine lv_goto (tgt := 4) hx hb1 dX9_endOf_37 (by decide) ?_
          exact ih x2 (x3 + (1 : Int32)) σ7 _ _ ls hq h (lv_sub hl [2, 3, 1, 0] rfl)
        · have hq := hq.2 c8
          refine lv_iload_n hx hb1 dX9_endOf_28 rfl (lv_at hl 3 rfl) ?_
          refine lv_goto (tgt := 33) hx hb1 dX9_endOf_29 (by decide) ?_
          refine lv_istore_n (lv' := [(2, .int x3), (0, .ref (ad 0)), (1, .int x1), (3, .int x3)]) hx hb1 dX9_endOf_33 rfl hl (by decide) rfl (fun ls hl => ?_)
          refine lv_iinc (v := (x3 + (1 : Int32))) (lv' := [(3, .int (x3 + (1 : Int32))), (2, .int x3), (0, .ref (ad 0)), (1, .int x1)]) hx hb1 dX9_endOf_34 hl (k := 3) rfl rfl (by decide) rfl (fun ls hl => ?_)
          refine lv_goto (tgt := 4) hx hb1 dX9_endOf_37 (by decide) ?_
          exact ih x3 (x3 + (1 : Int32)) σ7 _ _ ls hq h (lv_sub hl [2, 3, 1, 0] rfl)
  subst hargs
  refine hh_entry (vs := [.ref (ad 0), .int x1]) (Nat.le_of_ble_eq_true rfl) (fun ls hl => ?_)
  have hl : lv_has ls 4 [(0, .ref (ad 0)), (1, .int x1)] := hl
  have hq : wp_X9_endOf x1 σ Q := hq
  unfold wp_X9_endOf at hq
  refine lv_iconst (v := (0 : Int32)) hx hb1 dX9_endOf_0 (by decide) ?_
  refine lv_istore_n (lv' := [(2, .int (0 : Int32)), (0, .ref (ad 0)), (1, .int x1)]) hx hb1 dX9_endOf_1 rfl hl (by decide) rfl (fun ls hl => ?_)
  refine lv_iconst (v := (1 : Int32)) hx hb1 dX9_endOf_2 (by decide) ?_
  refine lv_istore_n (lv' := [(3, .int (1 : Int32)), (2, .int (0 : Int32)), (0, .ref (ad 0)), (1, .int x1)]) hx hb1 dX9_endOf_3 rfl hl (by decide) rfl (fun ls hl => ?_)
  obtain ⟨n9, hq⟩ := hq
  exact lt_4 x1 n9 (0 : Int32) (1 : Int32) σ _ _ ls hq h (lv_sub hl [2, 3, 1, 0] rfl)
theorem nd_X9_sureOf : yX9_sureOf.cls = RX9 ∧ yX9_sureOf.cls ≠ "java/lang/invoke/MethodHandle" ∧ yX9_sureOf.cls ≠ "java/lang/invoke/VarHandle" ∧ (parseMethodDescriptor yX9_sureOf.desc).map (fun d => d.parameters.length) = some 1 := by decide +kernel
abbrev rm_X9_sureOf : Room := { frames := 3, cells := 0, slots := 0, locals := 67 }
def wp_X9_sureOf (x1 : Int32) (σ : hh_S) (Q : Int32 → hh_S → Prop) : Prop := (wp_X9_endOf x1 σ (fun (r1 : Int32) (σ2 : hh_S) => (wp_X9_shareOf x1 r1 σ2 (fun (r3 : Int32) (σ4 : hh_S) => (Q (r3 / (1000 : Int32)) σ4)))))
theorem in_X9_sureOf_X9 : ∀ w ∈ u_ws RX9 TX9 37, w ∈ wsX9_sureOf := fun w h => List.mem_cons_of_mem _ (List.mem_append_right _ h)
set_option maxHeartbeats 4000000 in
set_option maxRecDepth 100000 in
theorem ad_X9_sureOf {D : va_G} (l : Launch) {cy : Nat → ClassId} {ad : Nat → Nat} (J : hh_J hm_Y ad) (x1 : Int32) (σ : hh_S) (Q : Int32 → hh_S → Prop) (hq : wp_X9_sureOf x1 σ Q) : Met l yX9_sureOf wsX9_sureOf rm_X9_sureOf (va_Pc [.ref (ad 0), .int x1] (hh_B D hh_cl hm_Y cy ad σ)) (va_Qi Q (hh_B D hh_cl hm_Y cy ad) (hh_A hm_Y ad)) 0 0 (hh_A hm_Y ad) := by
  refine Met.ofW (cc := cX9_sureOf) (maxL := 2) (ret := (some .int)) (by decide) rfl ?_
  intro p e s m args below meth c s₁ B hml hv
  obtain ⟨hargs, hP0, hK0⟩ := hv
  have hr := B.returns
  have hlocks := B.notSynchronized
  have X : hh_X p m c cX9_sureOf 2 s args wsX9_sureOf RX9 D hh_cl hm_Y cy ad := ⟨⟨B.exec, B.bytes, hml, findClass_of_methodNamed B.named, atoms_spec (ws := wsX9_sureOf) B.pre⟩, hK0, J⟩
  have hx := X.1.1
  have hb1 := X.1.2.1
  have h : hh_H D hh_cl hm_Y cy ad s.heap σ s.heap [] := ⟨hP0, va_S.rf⟩
  subst hargs
  refine hh_entry (vs := [.ref (ad 0), .int x1]) (Nat.le_of_ble_eq_true rfl) (fun ls hl => ?_)
  have hl : lv_has ls 2 [(0, .ref (ad 0)), (1, .int x1)] := hl
  have hq : wp_X9_sureOf x1 σ Q := hq
  unfold wp_X9_sureOf at hq
  refine lv_aload_n hx hb1 dX9_sureOf_0 rfl (lv_at hl 0 rfl) ?_
  refine lv_iload_n hx hb1 dX9_sureOf_1 rfl (lv_at hl 1 rfl) ?_
  refine lv_aload_n hx hb1 dX9_sureOf_2 rfl (lv_at hl 0 rfl) ?_
  refine lv_iload_n hx hb1 dX9_sureOf_3 rfl (lv_at hl 1 rfl) ?_
  refine hh_kI h (va_runV (As := [.int x1]) (rest := [.int x1, .ref (ad 0)]) X.1 (ad_X9_endOf (D := D) l J x1 σ _ hq) (cwV 1 X.1.2.2.2.2 gX9_sureOf_X9_endOf rfl rfl rfl nd_X9_endOf ⟨Nat.le_of_ble_eq_true rfl, Nat.le_of_ble_eq_true rfl⟩) (hh_preV X h fm_0_0 km_0 [.int x1]) rfl rfl hl.1 rfl (lv_room (Nat.le_of_ble_eq_true rfl)) dX9_sureOf_4 ⟨Nat.le_of_ble_eq_true rfl, Nat.le_of_ble_eq_true rfl⟩) (fun r1 σ2 H locs hq h => ?_)
  refine hh_kI h (va_runV (As := [.int x1, .int r1]) (rest := []) X.1 (ad_X9_shareOf (D := D) l J x1 r1 σ2 _ hq) (cwV 2 X.1.2.2.2.2 gX9_sureOf_X9_shareOf rfl rfl rfl nd_X9_shareOf ⟨Nat.le_of_ble_eq_true rfl, Nat.le_of_ble_eq_true rfl⟩) (hh_preV X h fm_0_0 km_0 [.int x1, .int r1]) rfl rfl hl.1 rfl (lv_room (Nat.le_of_ble_eq_true rfl)) dX9_sureOf_7 ⟨Nat.le_of_ble_eq_true rfl, Nat.le_of_ble_eq_true rfl⟩) (fun r3 σ4 H locs hq h => ?_)
  refine lv_sipush (v := (1000 : Int32)) hx hb1 dX9_sureOf_10 (by decide) ?_
  refine lv_idiv hx hb1 dX9_sureOf_13 (by decide) ?_
  exact hh_iret X h hr hlocks hq dX9_sureOf_14
theorem nd_X9_isOpen : yX9_isOpen.cls = RX9 ∧ yX9_isOpen.cls ≠ "java/lang/invoke/MethodHandle" ∧ yX9_isOpen.cls ≠ "java/lang/invoke/VarHandle" ∧ (parseMethodDescriptor yX9_isOpen.desc).map (fun d => d.parameters.length) = some 1 := by decide +kernel
abbrev rm_X9_isOpen : Room := { frames := 4, cells := 0, slots := 0, locals := 88 }
def wq_X9_isOpen_4 (x1 : Int32) (Q : Int32 → hh_S → Prop) (K4 : Int32 → Int32 → hh_S → Prop) (x2 : Int32) (x3 : Int32) (σ : hh_S) : Prop := (((hh_I σ 2) ≤ x3 → ((narrow .boolean (.int x2) = .int x2) ∧ Q x2 σ)) ∧ (¬ (hh_I σ 2) ≤ x3 → ((x2 = 0 → ((narrow .boolean (.int x2) = .int x2) ∧ Q x2 σ)) ∧ (¬ x2 = 0 → (vp_in x1 24 ∧ (vp_in (hh_rA σ 6 x1) 8 ∧ ((¬ (((hh_rA σ 4 (hh_rA σ 6 x1)) >>> (x3 &&& 31)) &&& (1 : Int32)) = (1 : Int32) → (K4 x2 (x3 + (1 : Int32)) σ)) ∧ ((((hh_rA σ 4 (hh_rA σ 6 x1)) >>> (x3 &&& 31)) &&& (1 : Int32)) = (1 : Int32) → (vp_in x1 24 ∧ (wp_X9_itemOf x3 (hh_rA σ 7 x1) σ (fun (r9 : Int32) (σ10 : hh_S) => ((r9 < 0 → (K4 (0 : Int32) (x3 + (1 : Int32)) σ10)) ∧ (¬ r9 < 0 → (wp_X9_sureOf r9 σ10 (fun (r12 : Int32) (σ13 : hh_S) => (vp_in x1 24 ∧ (vp_in (hh_rA σ13 6 x1) 8 ∧ ((r12 < (hh_rA σ13 5 (hh_rA σ13 6 x1)) → (K4 (0 : Int32) (x3 + (1 : Int32)) σ13)) ∧ (¬ r12 < (hh_rA σ13 5 (hh_rA σ13 6 x1)) → (K4 (1 : Int32) (x3 + (1 : Int32)) σ13))))))))))))))))))))
def wp_X9_isOpen (x1 : Int32) (σ : hh_S) (Q : Int32 → hh_S → Prop) : Prop := (∃ n : Nat, hh_lp2 (wq_X9_isOpen_4 x1 Q) n (1 : Int32) (0 : Int32) σ)
theorem in_X9_isOpen_X9 : ∀ w ∈ u_ws RX9 TX9 37, w ∈ wsX9_isOpen := fun w h => List.mem_cons_of_mem _ (List.mem_append_right _ h)
set_option maxHeartbeats 4000000 in
set_option maxRecDepth 100000 in
theorem ad_X9_isOpen {D : va_G} (l : Launch) {cy : Nat → ClassId} {ad : Nat → Nat} (J : hh_J hm_Y ad) (x1 : Int32) (σ : hh_S) (Q : Int32 → hh_S → Prop) (hq : wp_X9_isOpen x1 σ Q) : Met l yX9_isOpen wsX9_isOpen rm_X9_isOpen (va_Pc [.ref (ad 0), .int x1] (hh_B D hh_cl hm_Y cy ad σ)) (va_Qi Q (hh_B D hh_cl hm_Y cy ad) (hh_A hm_Y ad)) 0 0 (hh_A hm_Y ad) := by
  refine Met.ofW (cc := cX9_isOpen) (maxL := 5) (ret := (some .boolean)) (by decide) rfl ?_
  intro p e s m args below meth c s₁ B hml hv
  obtain ⟨hargs, hP0, hK0⟩ := hv
  have hr := B.returns
  have hlocks := B.notSynchronized
  have X : hh_X p m c cX9_isOpen 5 s args wsX9_isOpen RX9 D hh_cl hm_Y cy ad := ⟨⟨B.exec, B.bytes, hml, findClass_of_methodNamed B.named, atoms_spec (ws := wsX9_isOpen) B.pre⟩, hK0, J⟩
  have hx := X.1.1
  have hb1 := X.1.2.1
  have h : hh_H D hh_cl hm_Y cy ad s.heap σ s.heap [] := ⟨hP0, va_S.rf⟩
  have lt_4 : ∀ (x1 : Int32) (n : Nat) (x2 : Int32) (x3 : Int32) (σ : hh_S) (H : Heap) (locs : List Loc) (ls : Array Slot), hh_lp2 (wq_X9_isOpen_4 x1 Q) n x2 x3 σ → hh_H D hh_cl hm_Y cy ad s.heap σ H locs → lv_has ls 5 [(0, .ref (ad 0)), (1, .int x1), (2, .int x2), (3, .int x3)] → W p l e (headSpec wsX9_isOpen rm_X9_isOpen).room s m args below meth c H locs 0 0 (MQ below (va_Qi Q (hh_B D hh_cl hm_Y cy ad) (hh_A hm_Y ad)) args s 0 0 (hh_A hm_Y ad)) (F0 m 4 ls []) := by
    intro x1 n
    induction n with
    | zero => intro x2 x3 σ H locs ls hq h hl; exact hq.elim
    | succ n ih =>
      intro x2 x3 σ H locs ls hq h hl
      have hq : wq_X9_isOpen_4 x1 Q (hh_lp2 (wq_X9_isOpen_4 x1 Q) n) x2 x3 σ := hq
      unfold wq_X9_isOpen_4 at hq
      refine lv_iload_n hx hb1 dX9_isOpen_4 rfl (lv_at hl 3 rfl) ?_
      refine lv_aload_n hx hb1 dX9_isOpen_5 rfl (lv_at hl 0 rfl) ?_
      refine hh_geti X h (q := 2) fm_0_2 rfl in_X9_isOpen_X9 km_0 (by decide) (List.mem_of_getElem? (i := 1) rfl) rfl dX9_isOpen_6 ?_
      refine lv_icmp_ge (tgt := 85) hx hb1 dX9_isOpen_9 (by decide) (fun c1 => ?_) (fun c1 => ?_)
      · have hq := hq.1 c1
        refine lv_iload_n hx hb1 dX9_isOpen_85 rfl (lv_at hl 2 rfl) ?_
        obtain ⟨h2, hq⟩ := hq
        exact hh_zret X h hr hlocks h2 hq dX9_isOpen_86
      · have hq := hq.2 c1
        refine lv_iload_n hx hb1 dX9_isOpen_12 rfl (lv_at hl 2 rfl) ?_
        refine lv_if_eq (tgt := 85) hx hb1 dX9_isOpen_13 (by decide) (fun c3 => ?_) (fun c3 => ?_)
        · have hq := hq.1 c3
          refine lv_iload_n hx hb1 dX9_isOpen_85 rfl (lv_at hl 2 rfl) ?_
          obtain ⟨h4, hq⟩ := hq
          exact hh_zret X h hr hlocks h4 hq dX9_isOpen_86
        · have hq := hq.2 c3
          refine lv_aload_n hx hb1 dX9_isOpen_16 rfl (lv_at hl 0 rfl) ?_
          refine hh_getr X h fm_0_5 in_X9_isOpen_X9 km_0 (by decide) (List.mem_of_getElem? (i := 2) rfl) rfl dX9_isOpen_17 ?_
          refine lv_aload_n hx hb1 dX9_isOpen_20 rfl (lv_at hl 0 rfl) ?_
          refine hh_getr X h fm_0_8 in_X9_isOpen_X9 km_0 (by decide) (List.mem_of_getElem? (i := 3) rfl) rfl dX9_isOpen_21 ?_
          refine lv_iload_n hx hb1 dX9_isOpen_24 rfl (lv_at hl 1 rfl) ?_
          obtain ⟨h5, hq⟩ := hq
          refine hh_ild X h am_6 h5 dX9_isOpen_25 ?_
          obtain ⟨h6, hq⟩ := hq
          refine hh_ild X h am_4 h6 dX9_isOpen_26 ?_
          refine lv_iload_n hx hb1 dX9_isOpen_27 rfl (lv_at hl 3 rfl) ?_
          refine lv_ishr hx hb1 dX9_isOpen_28 ?_
          refine lv_iconst (v := (1 : Int32)) hx hb1 dX9_isOpen_29 (by decide) ?_
          refine lv_iand hx hb1 dX9_isOpen_30 ?_
          refine lv_iconst (v := (1 : Int32)) hx hb1 dX9_isOpen_31 (by decide) ?_
          refine lv_icmp_ne (tgt := 79) hx hb1 dX9_isOpen_32 (by decide) (fun c7 => ?_) (fun c7 => ?_)
          · have hq := hq.1 c7
            refine lv_iinc (v := (x3 + (1 : Int32))) (lv' := [(3, .int (x3 + (1 : Int32))), (0, .ref (ad 0)), (1, .int x1), (2, .int x2)]) hx hb1 dX9_isOpen_79 hl (k := 3) rfl rfl (by decide) rfl (fun ls hl => ?_)
            refine lv_goto (tgt := 4) hx hb1 dX9_isOpen_82 (by decide) ?_
            exact ih x2 (x3 + (1 : Int32)) σ _ _ ls hq h (lv_sub hl [1, 2, 3, 0] rfl)
          · have hq := hq.2 c7
            refine lv_aload_n hx hb1 dX9_isOpen_35 rfl (lv_at hl 0 rfl) ?_
            refine lv_iload_n hx hb1 dX9_isOpen_36 rfl (lv_at hl 3 rfl) ?_
            refine lv_aload_n hx hb1 dX9_isOpen_37 rfl (lv_at hl 0 rfl) ?_
            refine hh_getr X h fm_0_9 in_X9_isOpen_X9 km_0 (by decide) (List.mem_of_getElem? (i := 4) rfl) rfl dX9_isOpen_38 ?_
            refine lv_iload_n hx hb1 dX9_isOpen_41 rfl (lv_at hl 1 rfl) ?_
            obtain ⟨h8, hq⟩ := hq
            refine hh_ild X h am_7 h8 dX9_isOpen_42 ?_
            refine hh_kI h (va_runV (As := [.int x3, .int (hh_rA σ 7 x1)]) (rest := []) X.1 (ad_X9_itemOf (D := D) l J x3 (hh_rA σ 7 x1) σ _ hq) (cwV 2 X.1.2.2.2.2 gX9_isOpen_X9_itemOf rfl rfl rfl nd_X9_itemOf ⟨Nat.le_of_ble_eq_true rfl, Nat.le_of_ble_eq_true rfl⟩) (hh_preV X h fm_0_0 km_0 [.int x3, .int (hh_rA σ 7 x1)]) rfl rfl hl.1 rfl (lv_room (Nat.le_of_ble_eq_true rfl)) dX9_isOpen_43 ⟨Nat.le_of_ble_eq_true rfl, Nat.le_of_ble_eq_true rfl⟩) (fun r9 σ10 H locs hq h => ?_)
            refine lv_istore (lv' := [(4, .int r9), (0, .ref (ad 0)), (1, .int x1), (2, .int x2), (3, .int x3)]) hx hb1 dX9_isOpen_46 hl (by decide) rfl (fun ls hl => ?_)
            refine lv_iload hx hb1 dX9_isOpen_48 (lv_at hl 0 rfl) ?_
            refine lv_if_lt (tgt := 77) hx hb1 dX9_isOpen_50 (by decide) (fun c11 => ?_) (fun c11 => ?_)
            · have hq := hq.1 c11
              refine lv_iconst (v := (0 : Int32)) hx hb1 dX9_isOpen_77 (by decide) ?_
              refine lv_istore_n (lv' := [(2, .int (0 : Int32)), (4, .int r9), (0, .ref (ad 0)), (1, .int x1), (3, .int x3)]) hx hb1 dX9_isOpen_78 rfl hl (by decide) rfl (fun ls hl => ?_)
              refine lv_iinc (v := (x3 + (1 : Int32))) (lv' := [(3, .int (x3 + (1 : Int32))), (2, .int (0 : Int32)), (4, .int r9), (0, .ref (ad 0)), (1, .int x1)]) hx hb1 dX9_isOpen_79 hl (k := 4) rfl rfl (by decide) rfl (fun ls hl => ?_)
              refine lv_goto (tgt := 4) hx hb1 dX9_isOpen_82 (by decide) ?_
              exact ih (0 : Int32) (x3 + (1 : Int32)) σ10 _ _ ls hq h (lv_sub hl [3, 4, 1, 0] rfl)
            · have hq := hq.2 c11
              refine lv_aload_n hx hb1 dX9_isOpen_53 rfl (lv_at hl 1 rfl) ?_
              refine lv_iload hx hb1 dX9_isOpen_54 (lv_at hl 0 rfl) ?_
              refine hh_kI h (va_runV (As := [.int r9]) (rest := []) X.1 (ad_X9_sureOf (D := D) l J r9 σ10 _ hq) (cwV 1 X.1.2.2.2.2 gX9_isOpen_X9_sureOf rfl rfl rfl nd_X9_sureOf ⟨Nat.le_of_ble_eq_true rfl, Nat.le_of_ble_eq_true rfl⟩) (hh_preV X h fm_0_0 km_0 [.int r9]) rfl rfl hl.1 rfl (lv_room (Nat.le_of_ble_eq_true rfl)) dX9_isOpen_56 ⟨Nat.le_of_ble_eq_true rfl, Nat.le_of_ble_eq_true rfl⟩) (fun r12 σ13 H locs hq h => ?_)
              refine lv_aload_n hx hb1 dX9_isOpen_59 rfl (lv_at hl 1 rfl) ?_
              refine hh_getr X h fm_0_6 in_X9_isOpen_X9 km_0 (by decide) (List.mem_of_getElem? (i := 5) rfl) rfl dX9_isOpen_60 ?_
              refine lv_aload_n hx hb1 dX9_isOpen_63 rfl (lv_at hl 1 rfl) ?_
              refine hh_getr X h fm_0_8 in_X9_isOpen_X9 km_0 (by decide) (List.mem_of_getElem? (i := 3) rfl) rfl dX9_isOpen_64 ?_
              refine lv_iload_n hx hb1 dX9_isOpen_67 rfl (lv_at hl 2 rfl) ?_
              obtain ⟨h14, hq⟩ := hq
              refine hh_ild X h am_6 h14 dX9_isOpen_68 ?_
              obtain ⟨h15, hq⟩ := hq
              refine hh_ild X h am_5 h15 dX9_isOpen_69 ?_
              refine lv_icmp_lt (tgt := 77) hx hb1 dX9_isOpen_70 (by decide) (fun c16 => ?_) (fun c16 => ?_)
              · have hq := hq.1 c16
                refine lv_iconst (v := (0 : Int32)) hx hb1 dX9_isOpen_77 (by decide) ?_
                refine lv_istore_n (lv' := [(2, .int (0 : Int32)), (4, .int r9), (0, .ref (ad 0)), (1, .int x1), (3, .int x3)]) hx hb1 dX9_isOpen_78 rfl hl (by decide) rfl (fun ls hl => ?_)
                refine lv_iinc (v := (x3 + (1 : Int32))) (lv' := [(3, .int (x3 + (1 : Int32))), (2, .int (0 : Int32)), (4, .int r9), (0, .ref (ad 0)), (1, .int x1)]) hx hb1 dX9_isOpen_79 hl (k := 4) rfl rfl (by decide) rfl (fun ls hl => ?_)
                refine lv_goto (tgt := 4) hx hb1 dX9_isOpen_82 (by decide) ?_
                exact ih (0 : Int32) (x3 + (1 : Int32)) σ13 _ _ ls hq h (lv_sub hl [3, 4, 1, 0] rfl)
              · have hq := hq.2 c16
                refine lv_iconst (v := (1 : Int32)) hx hb1 dX9_isOpen_73 (by decide) ?_
                refine lv_goto (tgt := 78) hx hb1 dX9_isOpen_74 (by decide) ?_
                refine lv_istore_n (lv' := [(2, .int (1 : Int32)), (4, .int r9), (0, .ref (ad 0)), (1, .int x1), (3, .int x3)]) hx hb1 dX9_isOpen_78 rfl hl (by decide) rfl (fun ls hl => ?_)
                refine lv_iinc (v := (x3 + (1 : Int32))) (lv' := [(3, .int (x3 + (1 : Int32))), (2, .int (1 : Int32)), (4, .int r9), (0, .ref (ad 0)), (1, .int x1)]) hx hb1 dX9_isOpen_79 hl (k := 4) rfl rfl (by decide) rfl (fun ls hl => ?_)
                refine lv_goto (tgt := 4) hx hb1 dX9_isOpen_82 (by decide) ?_
                exact ih (1 : Int32) (x3 + (1 : Int32)) σ13 _ _ ls hq h (lv_sub hl [3, 4, 1, 0] rfl)
  subst hargs
  refine hh_entry (vs := [.ref (ad 0), .int x1]) (Nat.le_of_ble_eq_true rfl) (fun ls hl => ?_)
  have hl : lv_has ls 5 [(0, .ref (ad 0)), (1, .int x1)] := hl
  have hq : wp_X9_isOpen x1 σ Q := hq
  unfold wp_X9_isOpen at hq
  refine lv_iconst (v := (1 : Int32)) hx hb1 dX9_isOpen_0 (by decide) ?_
  refine lv_istore_n (lv' := [(2, .int (1 : Int32)), (0, .ref (ad 0)), (1, .int x1)]) hx hb1 dX9_isOpen_1 rfl hl (by decide) rfl (fun ls hl => ?_)
  refine lv_iconst (v := (0 : Int32)) hx hb1 dX9_isOpen_2 (by decide) ?_
  refine lv_istore_n (lv' := [(3, .int (0 : Int32)), (2, .int (1 : Int32)), (0, .ref (ad 0)), (1, .int x1)]) hx hb1 dX9_isOpen_3 rfl hl (by decide) rfl (fun ls hl => ?_)
  obtain ⟨n17, hq⟩ := hq
  exact lt_4 x1 n17 (1 : Int32) (0 : Int32) σ _ _ ls hq h (lv_sub hl [2, 3, 1, 0] rfl)
theorem nd_X9_counts : yX9_counts.cls = RX9 ∧ yX9_counts.cls ≠ "java/lang/invoke/MethodHandle" ∧ yX9_counts.cls ≠ "java/lang/invoke/VarHandle" ∧ (parseMethodDescriptor yX9_counts.desc).map (fun d => d.parameters.length) = some 2 := by decide +kernel
abbrev rm_X9_counts : Room := { frames := 0, cells := 0, slots := 0, locals := 0 }
def wp_X9_counts (x1 : Int32) (x2 : Int32) (σ : hh_S) (Q : Int32 → hh_S → Prop) : Prop := (vp_in x1 10 ∧ ((¬ (hh_rA σ 11 x1) = 0 → (Q (0 : Int32) σ)) ∧ ((hh_rA σ 11 x1) = 0 → (vp_in (((24 : Int32) * x1) + x2) 240 ∧ (((hh_rA σ 13 (((24 : Int32) * x1) + x2)) ≤ 0 → (Q (0 : Int32) σ)) ∧ (¬ (hh_rA σ 13 (((24 : Int32) * x1) + x2)) ≤ 0 → (Q (1 : Int32) σ)))))))
theorem in_X9_counts_X9 : ∀ w ∈ u_ws RX9 TX9 37, w ∈ wsX9_counts := fun w h => List.mem_cons_of_mem _ (List.mem_append_right _ h)
set_option maxHeartbeats 4000000 in
set_option maxRecDepth 100000 in
theorem ad_X9_counts {D : va_G} (l : Launch) {cy : Nat → ClassId} {ad : Nat → Nat} (J : hh_J hm_Y ad) (x1 : Int32) (x2 : Int32) (σ : hh_S) (Q : Int32 → hh_S → Prop) (hq : wp_X9_counts x1 x2 σ Q) : Met l yX9_counts wsX9_counts rm_X9_counts (va_Pc [.ref (ad 0), .int x1, .int x2] (hh_B D hh_cl hm_Y cy ad σ)) (va_Qi Q (hh_B D hh_cl hm_Y cy ad) (hh_A hm_Y ad)) 0 0 (hh_A hm_Y ad) := by
  refine Met.ofW (cc := cX9_counts) (maxL := 3) (ret := (some .boolean)) (by decide) rfl ?_
  intro p e s m args below meth c s₁ B hml hv
  obtain ⟨hargs, hP0, hK0⟩ := hv
  have hr := B.returns
  have hlocks := B.notSynchronized
  have X : hh_X p m c cX9_counts 3 s args wsX9_counts RX9 D hh_cl hm_Y cy ad := ⟨⟨B.exec, B.bytes, hml, findClass_of_methodNamed B.named, atoms_spec (ws := wsX9_counts) B.pre⟩, hK0, J⟩
  have hx := X.1.1
  have hb1 := X.1.2.1
  have h : hh_H D hh_cl hm_Y cy ad s.heap σ s.heap [] := ⟨hP0, va_S.rf⟩
  subst hargs
  refine hh_entry (vs := [.ref (ad 0), .int x1, .int x2]) (Nat.le_of_ble_eq_true rfl) (fun ls hl => ?_)
  have hl : lv_has ls 3 [(0, .ref (ad 0)), (1, .int x1), (2, .int x2)] := hl
  have hq : wp_X9_counts x1 x2 σ Q := hq
  unfold wp_X9_counts at hq
  refine lv_aload_n hx hb1 dX9_counts_0 rfl (lv_at hl 0 rfl) ?_
  refine hh_getr X h fm_0_14 in_X9_counts_X9 km_0 (by decide) (List.mem_of_getElem? (i := 1) rfl) rfl dX9_counts_1 ?_
  refine lv_iload_n hx hb1 dX9_counts_4 rfl (lv_at hl 1 rfl) ?_
  obtain ⟨h1, hq⟩ := hq
  refine hh_zld X h am_11 h1 dX9_counts_5 ?_
  refine lv_if_ne (tgt := 27) hx hb1 dX9_counts_6 (by decide) (fun c2 => ?_) (fun c2 => ?_)
  · have hq := hq.1 c2
    refine lv_iconst (v := (0 : Int32)) hx hb1 dX9_counts_27 (by decide) ?_
    exact hh_zret X h hr hlocks rfl hq dX9_counts_28
  · have hq := hq.2 c2
    refine lv_aload_n hx hb1 dX9_counts_9 rfl (lv_at hl 0 rfl) ?_
    refine hh_getr X h fm_0_16 in_X9_counts_X9 km_0 (by decide) (List.mem_of_getElem? (i := 2) rfl) rfl dX9_counts_10 ?_
    refine lv_bipush (v := (24 : Int32)) hx hb1 dX9_counts_13 (by decide) ?_
    refine lv_iload_n hx hb1 dX9_counts_15 rfl (lv_at hl 1 rfl) ?_
    refine lv_imul hx hb1 dX9_counts_16 ?_
    refine lv_iload_n hx hb1 dX9_counts_17 rfl (lv_at hl 2 rfl) ?_
    refine lv_iadd hx hb1 dX9_counts_18 ?_
    obtain ⟨h3, hq⟩ := hq
    refine hh_ild X h am_13 h3 dX9_counts_19 ?_
    refine lv_if_le (tgt := 27) hx hb1 dX9_counts_20 (by decide) (fun c4 => ?_) (fun c4 => ?_)
    · have hq := hq.1 c4
      refine lv_iconst (v := (0 : Int32)) hx hb1 dX9_counts_27 (by decide) ?_
      exact hh_zret X h hr hlocks rfl hq dX9_counts_28
    · have hq := hq.2 c4
      refine lv_iconst (v := (1 : Int32)) hx hb1 dX9_counts_23 (by decide) ?_
      refine lv_goto (tgt := 28) hx hb1 dX9_counts_24 (by decide) ?_
      exact hh_zret X h hr hlocks rfl hq dX9_counts_28
theorem nd_X9_countOf : yX9_countOf.cls = RX9 ∧ yX9_countOf.cls ≠ "java/lang/invoke/MethodHandle" ∧ yX9_countOf.cls ≠ "java/lang/invoke/VarHandle" ∧ (parseMethodDescriptor yX9_countOf.desc).map (fun d => d.parameters.length) = some 1 := by decide +kernel
abbrev rm_X9_countOf : Room := { frames := 1, cells := 0, slots := 0, locals := 22 }
def wq_X9_countOf_4 (x1 : Int32) (Q : Int32 → hh_S → Prop) (K4 : Int32 → Int32 → hh_S → Prop) (x2 : Int32) (x3 : Int32) (σ : hh_S) : Prop := (((hh_I σ 13) ≤ x3 → (Q x2 σ)) ∧ (¬ (hh_I σ 13) ≤ x3 → (wp_X9_counts x3 x1 σ (fun (r2 : Int32) (σ3 : hh_S) => ((r2 = 0 → (∀ v5 : Int32, v5 = (x2 + (0 : Int32)) → (K4 v5 (x3 + (1 : Int32)) σ3))) ∧ (¬ r2 = 0 → (∀ v6 : Int32, v6 = (x2 + (1 : Int32)) → (K4 v6 (x3 + (1 : Int32)) σ3))))))))
def wp_X9_countOf (x1 : Int32) (σ : hh_S) (Q : Int32 → hh_S → Prop) : Prop := (∃ n : Nat, hh_lp2 (wq_X9_countOf_4 x1 Q) n (0 : Int32) (0 : Int32) σ)
theorem in_X9_countOf_X9 : ∀ w ∈ u_ws RX9 TX9 37, w ∈ wsX9_countOf := fun w h => List.mem_cons_of_mem _ (List.mem_append_right _ h)
set_option maxHeartbeats 4000000 in
set_option maxRecDepth 100000 in
theorem ad_X9_countOf {D : va_G} (l : Launch) {cy : Nat → ClassId} {ad : Nat → Nat} (J : hh_J hm_Y ad) (x1 : Int32) (σ : hh_S) (Q : Int32 → hh_S → Prop) (hq : wp_X9_countOf x1 σ Q) : Met l yX9_countOf wsX9_countOf rm_X9_countOf (va_Pc [.ref (ad 0), .int x1] (hh_B D hh_cl hm_Y cy ad σ)) (va_Qi Q (hh_B D hh_cl hm_Y cy ad) (hh_A hm_Y ad)) 0 0 (hh_A hm_Y ad) := by
  refine Met.ofW (cc := cX9_countOf) (maxL := 4) (ret := (some .int)) (by decide) rfl ?_
  intro p e s m args below meth c s₁ B hml hv
  obtain ⟨hargs, hP0, hK0⟩ := hv
  have hr := B.returns
  have hlocks := B.notSynchronized
  have X : hh_X p m c cX9_countOf 4 s args wsX9_countOf RX9 D hh_cl hm_Y cy ad := ⟨⟨B.exec, B.bytes, hml, findClass_of_methodNamed B.named, atoms_spec (ws := wsX9_countOf) B.pre⟩, hK0, J⟩
  have hx := X.1.1
  have hb1 := X.1.2.1
  have h : hh_H D hh_cl hm_Y cy ad s.heap σ s.heap [] := ⟨hP0, va_S.rf⟩
  have lt_4 : ∀ (x1 : Int32) (n : Nat) (x2 : Int32) (x3 : Int32) (σ : hh_S) (H : Heap) (locs : List Loc) (ls : Array Slot), hh_lp2 (wq_X9_countOf_4 x1 Q) n x2 x3 σ → hh_H D hh_cl hm_Y cy ad s.heap σ H locs → lv_has ls 4 [(0, .ref (ad 0)), (1, .int x1), (2, .int x2), (3, .int x3)] → W p l e (headSpec wsX9_countOf rm_X9_countOf).room s m args below meth c H locs 0 0 (MQ below (va_Qi Q (hh_B D hh_cl hm_Y cy ad) (hh_A hm_Y ad)) args s 0 0 (hh_A hm_Y ad)) (F0 m 4 ls []) := by
    intro x1 n
    induction n with
    | zero => intro x2 x3 σ H locs ls hq h hl; exact hq.elim
    | succ n ih =>
      intro x2 x3 σ H locs ls hq h hl
      have hq : wq_X9_countOf_4 x1 Q (hh_lp2 (wq_X9_countOf_4 x1 Q) n) x2 x3 σ := hq
      unfold wq_X9_countOf_4 at hq
      refine lv_iload_n hx hb1 dX9_countOf_4 rfl (lv_at hl 3 rfl) ?_
      refine lv_aload_n hx hb1 dX9_countOf_5 rfl (lv_at hl 0 rfl) ?_
      refine hh_geti X h (q := 13) fm_0_13 rfl in_X9_countOf_X9 km_0 (by decide) (List.mem_of_getElem? (i := 1) rfl) rfl dX9_countOf_6 ?_
      refine lv_icmp_ge (tgt := 35) hx hb1 dX9_countOf_9 (by decide) (fun c1 => ?_) (fun c1 => ?_)
      · have hq := hq.1 c1
        refine lv_iload_n hx hb1 dX9_countOf_35 rfl (lv_at hl 2 rfl) ?_
        exact hh_iret X h hr hlocks hq dX9_countOf_36
      · have hq := hq.2 c1
        refine lv_iload_n hx hb1 dX9_countOf_12 rfl (lv_at hl 2 rfl) ?_
        refine lv_aload_n hx hb1 dX9_countOf_13 rfl (lv_at hl 0 rfl) ?_
        refine lv_iload_n hx hb1 dX9_countOf_14 rfl (lv_at hl 3 rfl) ?_
        refine lv_iload_n hx hb1 dX9_countOf_15 rfl (lv_at hl 1 rfl) ?_
        refine hh_kI h (va_runV (As := [.int x3, .int x1]) (rest := [.int x2]) X.1 (ad_X9_counts (D := D) l J x3 x1 σ _ hq) (cwV 2 X.1.2.2.2.2 gX9_countOf_X9_counts rfl rfl rfl nd_X9_counts ⟨Nat.le_of_ble_eq_true rfl, Nat.le_of_ble_eq_true rfl⟩) (hh_preV X h fm_0_0 km_0 [.int x3, .int x1]) rfl rfl hl.1 rfl (lv_room (Nat.le_of_ble_eq_true rfl)) dX9_countOf_16 ⟨Nat.le_of_ble_eq_true rfl, Nat.le_of_ble_eq_true rfl⟩) (fun r2 σ3 H locs hq h => ?_)
        refine lv_if_eq (tgt := 26) hx hb1 dX9_countOf_19 (by decide) (fun c4 => ?_) (fun c4 => ?_)
        · have hq := hq.1 c4
          refine lv_iconst (v := (0 : Int32)) hx hb1 dX9_countOf_26 (by decide) ?_
          refine lv_iadd hx hb1 dX9_countOf_27 ?_
          refine lv_topi (fun v5 ev5 => ?_)
          have hq := hq v5 ev5
          refine lv_istore_n (lv' := [(2, .int v5), (0, .ref (ad 0)), (1, .int x1), (3, .int x3)]) hx hb1 dX9_countOf_28 rfl hl (by decide) rfl (fun ls hl => ?_)
          refine lv_iinc (v := (x3 + (1 : Int32))) (lv' := [(3, .int (x3 + (1 : Int32))), (2, .int v5), (0, .ref (ad 0)), (1, .int x1)]) hx hb1 dX9_countOf_29 hl (k := 3) rfl rfl (by decide) rfl (fun ls hl => ?_)
          refine lv_goto (tgt := 4) hx hb1 dX9_countOf_32 (by decide) ?_
          exact ih v5 (x3 + (1 : Int32)) σ3 _ _ ls hq h (lv_sub hl [2, 3, 1, 0] rfl)
        · have hq := hq.2 c4
          refine lv_iconst (v := (1 : Int32)) hx hb1 dX9_countOf_22 (by decide) ?_
          refine lv_goto (tgt := 27) hx hb1 dX9_countOf_23 (by decide) ?_
          refine lv_iadd hx hb1 dX9_countOf_27 ?_
          refine lv_topi (fun v6 ev6 => ?_)
          have hq := hq v6 ev6
          refine lv_istore_n (lv' := [(2, .int v6), (0, .ref (ad 0)), (1, .int x1), (3, .int x3)]) hx hb1 dX9_countOf_28 rfl hl (by decide) rfl (fun ls hl => ?_)
          refine lv_iinc (v := (x3 + (1 : Int32))) (lv' := [(3, .int (x3 + (1 : Int32))), (2, .int v6), (0, .ref (ad 0)), (1, .int x1)]) hx hb1 dX9_countOf_29 hl (k := 3) rfl rfl (by decide) rfl (fun ls hl => ?_)
          refine lv_goto (tgt := 4) hx hb1 dX9_countOf_32 (by decide) ?_
          exact ih v6 (x3 + (1 : Int32)) σ3 _ _ ls hq h (lv_sub hl [2, 3, 1, 0] rfl)
  subst hargs
  refine hh_entry (vs := [.ref (ad 0), .int x1]) (Nat.le_of_ble_eq_true rfl) (fun ls hl => ?_)
  have hl : lv_has ls 4 [(0, .ref (ad 0)), (1, .int x1)] := hl
  have hq : wp_X9_countOf x1 σ Q := hq
  unfold wp_X9_countOf at hq
  refine lv_iconst (v := (0 : Int32)) hx hb1 dX9_countOf_0 (by decide) ?_
  refine lv_istore_n (lv' := [(2, .int (0 : Int32)), (0, .ref (ad 0)), (1, .int x1)]) hx hb1 dX9_countOf_1 rfl hl (by decide) rfl (fun ls hl => ?_)
  refine lv_iconst (v := (0 : Int32)) hx hb1 dX9_countOf_2 (by decide) ?_
  refine lv_istore_n (lv' := [(3, .int (0 : Int32)), (2, .int (0 : Int32)), (0, .ref (ad 0)), (1, .int x1)]) hx hb1 dX9_countOf_3 rfl hl (by decide) rfl (fun ls hl => ?_)
  obtain ⟨n7, hq⟩ := hq
  exact lt_4 x1 n7 (0 : Int32) (0 : Int32) σ _ _ ls hq h (lv_sub hl [2, 3, 1, 0] rfl)
theorem nd_X9_ofItem : yX9_ofItem.cls = RX9 ∧ yX9_ofItem.cls ≠ "java/lang/invoke/MethodHandle" ∧ yX9_ofItem.cls ≠ "java/lang/invoke/VarHandle" ∧ (parseMethodDescriptor yX9_ofItem.desc).map (fun d => d.parameters.length) = some 2 := by decide +kernel
abbrev rm_X9_ofItem : Room := { frames := 5, cells := 0, slots := 0, locals := 112 }
def wp_X9_ofItem (x1 : Int32) (x2 : Int32) (σ : hh_S) (Q : Int32 → hh_S → Prop) : Prop := (wp_X9_isItem x1 σ (fun (r1 : Int32) (σ2 : hh_S) => ((¬ r1 = 0 → ((x2.toInt = 0 → (vp_in x1 24 ∧ (Q (hh_rA σ2 6 x1) σ2))) ∧ (x2.toInt = 1 → (vp_in x1 24 ∧ (Q (hh_rA σ2 7 x1) σ2))) ∧ (x2.toInt = 2 → (wp_X9_labelsOf x1 σ2 (fun (r9 : Int32) (σ10 : hh_S) => (Q r9 σ10)))) ∧ (x2.toInt = 3 → (vp_in x1 24 ∧ (Q (hh_rA σ2 8 x1) σ2))) ∧ (x2.toInt = 4 → (vp_in x1 24 ∧ (Q (hh_rA σ2 9 x1) σ2))) ∧ (x2.toInt = 5 → (wp_X9_isOpen x1 σ2 (fun (r16 : Int32) (σ17 : hh_S) => ((r16 = 0 → (Q (0 : Int32) σ17)) ∧ (¬ r16 = 0 → (Q (1 : Int32) σ17)))))) ∧ (x2.toInt = 6 → (wp_X9_countOf x1 σ2 (fun (r20 : Int32) (σ21 : hh_S) => (Q r20 σ21)))) ∧ (x2.toInt = 7 → (wp_X9_endOf x1 σ2 (fun (r23 : Int32) (σ24 : hh_S) => (Q r23 σ24)))) ∧ (x2.toInt = 8 → (wp_X9_sureOf x1 σ2 (fun (r26 : Int32) (σ27 : hh_S) => (Q r26 σ27)))) ∧ (x2.toInt = 9 → (vp_in x1 24 ∧ (Q (hh_rA σ2 10 x1) σ2))) ∧ ((x2.toInt < 0 ∨ 9 < x2.toInt) → (Q (-2 : Int32) σ2)))) ∧ (r1 = 0 → (Q (-1 : Int32) σ2)))))
theorem in_X9_ofItem_X9 : ∀ w ∈ u_ws RX9 TX9 37, w ∈ wsX9_ofItem := fun w h => List.mem_cons_of_mem _ (List.mem_append_right _ h)
set_option maxHeartbeats 4000000 in
set_option maxRecDepth 100000 in
theorem ad_X9_ofItem {D : va_G} (l : Launch) {cy : Nat → ClassId} {ad : Nat → Nat} (J : hh_J hm_Y ad) (x1 : Int32) (x2 : Int32) (σ : hh_S) (Q : Int32 → hh_S → Prop) (hq : wp_X9_ofItem x1 x2 σ Q) : Met l yX9_ofItem wsX9_ofItem rm_X9_ofItem (va_Pc [.ref (ad 0), .int x1, .int x2] (hh_B D hh_cl hm_Y cy ad σ)) (va_Qi Q (hh_B D hh_cl hm_Y cy ad) (hh_A hm_Y ad)) 0 0 (hh_A hm_Y ad) := by
  refine Met.ofW (cc := cX9_ofItem) (maxL := 3) (ret := (some .int)) (by decide) rfl ?_
  intro p e s m args below meth c s₁ B hml hv
  obtain ⟨hargs, hP0, hK0⟩ := hv
  have hr := B.returns
  have hlocks := B.notSynchronized
  have X : hh_X p m c cX9_ofItem 3 s args wsX9_ofItem RX9 D hh_cl hm_Y cy ad := ⟨⟨B.exec, B.bytes, hml, findClass_of_methodNamed B.named, atoms_spec (ws := wsX9_ofItem) B.pre⟩, hK0, J⟩
  have hx := X.1.1
  have hb1 := X.1.2.1
  have h : hh_H D hh_cl hm_Y cy ad s.heap σ s.heap [] := ⟨hP0, va_S.rf⟩
  subst hargs
  refine hh_entry (vs := [.ref (ad 0), .int x1, .int x2]) (Nat.le_of_ble_eq_true rfl) (fun ls hl => ?_)
  have hl : lv_has ls 3 [(0, .ref (ad 0)), (1, .int x1), (2, .int x2)] := hl
  have hq : wp_X9_ofItem x1 x2 σ Q := hq
  unfold wp_X9_ofItem at hq
  refine lv_aload_n hx hb1 dX9_ofItem_0 rfl (lv_at hl 0 rfl) ?_
  refine lv_iload_n hx hb1 dX9_ofItem_1 rfl (lv_at hl 1 rfl) ?_
  refine hh_kI h (va_runV (As := [.int x1]) (rest := []) X.1 (ad_X9_isItem (D := D) l J x1 σ _ hq) (cwV 1 X.1.2.2.2.2 gX9_ofItem_X9_isItem rfl rfl rfl nd_X9_isItem ⟨Nat.le_of_ble_eq_true rfl, Nat.le_of_ble_eq_true rfl⟩) (hh_preV X h fm_0_0 km_0 [.int x1]) rfl rfl hl.1 rfl (lv_room (Nat.le_of_ble_eq_true rfl)) dX9_ofItem_2 ⟨Nat.le_of_ble_eq_true rfl, Nat.le_of_ble_eq_true rfl⟩) (fun r1 σ2 H locs hq h => ?_)
  refine lv_if_ne (tgt := 10) hx hb1 dX9_ofItem_5 (by decide) (fun c3 => ?_) (fun c3 => ?_)
  · have hq := hq.1 c3
    refine lv_iload_n hx hb1 dX9_ofItem_10 rfl (lv_at hl 2 rfl) ?_
    by_cases c4 : x2.toInt = 0
    · have hq := hq.1 c4
      refine hh_tabIn X (off := 53) (tgt := 64) 0 dX9_ofItem_11 c4 (by decide) (by decide) (by decide) (by decide) ?_
      refine lv_aload_n hx hb1 dX9_ofItem_64 rfl (lv_at hl 0 rfl) ?_
      refine hh_getr X h fm_0_8 in_X9_ofItem_X9 km_0 (by decide) (List.mem_of_getElem? (i := 1) rfl) rfl dX9_ofItem_65 ?_
      refine lv_iload_n hx hb1 dX9_ofItem_68 rfl (lv_at hl 1 rfl) ?_
      obtain ⟨h5, hq⟩ := hq
      refine hh_ild X h am_6 h5 dX9_ofItem_69 ?_
      exact hh_iret X h hr hlocks hq dX9_ofItem_70
    have hq := hq.2
    by_cases c6 : x2.toInt = 1
    · have hq := hq.1 c6
      refine hh_tabIn X (off := 60) (tgt := 71) 1 dX9_ofItem_11 c6 (by decide) (by decide) (by decide) (by decide) ?_
      refine lv_aload_n hx hb1 dX9_ofItem_71 rfl (lv_at hl 0 rfl) ?_
      refine hh_getr X h fm_0_9 in_X9_ofItem_X9 km_0 (by decide) (List.mem_of_getElem? (i := 2) rfl) rfl dX9_ofItem_72 ?_
      refine lv_iload_n hx hb1 dX9_ofItem_75 rfl (lv_at hl 1 rfl) ?_
      obtain ⟨h7, hq⟩ := hq
      refine hh_ild X h am_7 h7 dX9_ofItem_76 ?_
      exact hh_iret X h hr hlocks hq dX9_ofItem_77
    have hq := hq.2
    by_cases c8 : x2.toInt = 2
    · have hq := hq.1 c8
      refine hh_tabIn X (off := 67) (tgt := 78) 2 dX9_ofItem_11 c8 (by decide) (by decide) (by decide) (by decide) ?_
      refine lv_aload_n hx hb1 dX9_ofItem_78 rfl (lv_at hl 0 rfl) ?_
      refine lv_iload_n hx hb1 dX9_ofItem_79 rfl (lv_at hl 1 rfl) ?_
      refine hh_kI h (va_runV (As := [.int x1]) (rest := []) X.1 (ad_X9_labelsOf (D := D) l J x1 σ2 _ hq) (cwV 1 X.1.2.2.2.2 gX9_ofItem_X9_labelsOf rfl rfl rfl nd_X9_labelsOf ⟨Nat.le_of_ble_eq_true rfl, Nat.le_of_ble_eq_true rfl⟩) (hh_preV X h fm_0_0 km_0 [.int x1]) rfl rfl hl.1 rfl (lv_room (Nat.le_of_ble_eq_true rfl)) dX9_ofItem_80 ⟨Nat.le_of_ble_eq_true rfl, Nat.le_of_ble_eq_true rfl⟩) (fun r9 σ10 H locs hq h => ?_)
      exact hh_iret X h hr hlocks hq dX9_ofItem_83
    have hq := hq.2
    by_cases c11 : x2.toInt = 3
    · have hq := hq.1 c11
      refine hh_tabIn X (off := 73) (tgt := 84) 3 dX9_ofItem_11 c11 (by decide) (by decide) (by decide) (by decide) ?_
      refine lv_aload_n hx hb1 dX9_ofItem_84 rfl (lv_at hl 0 rfl) ?_
      refine hh_getr X h fm_0_10 in_X9_ofItem_X9 km_0 (by decide) (List.mem_of_getElem? (i := 3) rfl) rfl dX9_ofItem_85 ?_
      refine lv_iload_n hx hb1 dX9_ofItem_88 rfl (lv_at hl 1 rfl) ?_
      obtain ⟨h12, hq⟩ := hq
      refine hh_ild X h am_8 h12 dX9_ofItem_89 ?_
      exact hh_iret X h hr hlocks hq dX9_ofItem_90
    have hq := hq.2
    by_cases c13 : x2.toInt = 4
    · have hq := hq.1 c13
      refine hh_tabIn X (off := 80) (tgt := 91) 4 dX9_ofItem_11 c13 (by decide) (by decide) (by decide) (by decide) ?_
      refine lv_aload_n hx hb1 dX9_ofItem_91 rfl (lv_at hl 0 rfl) ?_
      refine hh_getr X h fm_0_11 in_X9_ofItem_X9 km_0 (by decide) (List.mem_of_getElem? (i := 4) rfl) rfl dX9_ofItem_92 ?_
      refine lv_iload_n hx hb1 dX9_ofItem_95 rfl (lv_at hl 1 rfl) ?_
      obtain ⟨h14, hq⟩ := hq
      refine hh_ild X h am_9 h14 dX9_ofItem_96 ?_
      exact hh_iret X h hr hlocks hq dX9_ofItem_97
    have hq := hq.2
    by_cases c15 : x2.toInt = 5
    · have hq := hq.1 c15
      refine hh_tabIn X (off := 87) (tgt := 98) 5 dX9_ofItem_11 c15 (by decide) (by decide) (by decide) (by decide) ?_
      refine lv_aload_n hx hb1 dX9_ofItem_98 rfl (lv_at hl 0 rfl) ?_
      refine lv_iload_n hx hb1 dX9_ofItem_99 rfl (lv_at hl 1 rfl) ?_
      refine hh_kI h (va_runV (As := [.int x1]) (rest := []) X.1 (ad_X9_isOpen (D := D) l J x1 σ2 _ hq) (cwV 1 X.1.2.2.2.2 gX9_ofItem_X9_isOpen rfl rfl rfl nd_X9_isOpen ⟨Nat.le_of_ble_eq_true rfl, Nat.le_of_ble_eq_true rfl⟩) (hh_preV X h fm_0_0 km_0 [.int x1]) rfl rfl hl.1 rfl (lv_room (Nat.le_of_ble_eq_true rfl)) dX9_ofItem_100 ⟨Nat.le_of_ble_eq_true rfl, Nat.le_of_ble_eq_true rfl⟩) (fun r16 σ17 H locs hq h => ?_)
      refine lv_if_eq (tgt := 110) hx hb1 dX9_ofItem_103 (by decide) (fun c18 => ?_) (fun c18 => ?_)
      · have hq := hq.1 c18
        refine lv_iconst (v := (0 : Int32)) hx hb1 dX9_ofItem_110 (by decide) ?_
        exact hh_iret X h hr hlocks hq dX9_ofItem_111
      · have hq := hq.2 c18
        refine lv_iconst (v := (1 : Int32)) hx hb1 dX9_ofItem_106 (by decide) ?_
        refine lv_goto (tgt := 111) hx hb1 dX9_ofItem_107 (by decide) ?_
        exact hh_iret X h hr hlocks hq dX9_ofItem_111
    have hq := hq.2
    by_cases c19 : x2.toInt = 6
    · have hq := hq.1 c19
      refine hh_tabIn X (off := 101) (tgt := 112) 6 dX9_ofItem_11 c19 (by decide) (by decide) (by decide) (by decide) ?_
      refine lv_aload_n hx hb1 dX9_ofItem_112 rfl (lv_at hl 0 rfl) ?_
      refine lv_iload_n hx hb1 dX9_ofItem_113 rfl (lv_at hl 1 rfl) ?_
      refine hh_kI h (va_runV (As := [.int x1]) (rest := []) X.1 (ad_X9_countOf (D := D) l J x1 σ2 _ hq) (cwV 1 X.1.2.2.2.2 gX9_ofItem_X9_countOf rfl rfl rfl nd_X9_countOf ⟨Nat.le_of_ble_eq_true rfl, Nat.le_of_ble_eq_true rfl⟩) (hh_preV X h fm_0_0 km_0 [.int x1]) rfl rfl hl.1 rfl (lv_room (Nat.le_of_ble_eq_true rfl)) dX9_ofItem_114 ⟨Nat.le_of_ble_eq_true rfl, Nat.le_of_ble_eq_true rfl⟩) (fun r20 σ21 H locs hq h => ?_)
      exact hh_iret X h hr hlocks hq dX9_ofItem_117
    have hq := hq.2
    by_cases c22 : x2.toInt = 7
    · have hq := hq.1 c22
      refine hh_tabIn X (off := 107) (tgt := 118) 7 dX9_ofItem_11 c22 (by decide) (by decide) (by decide) (by decide) ?_
      refine lv_aload_n hx hb1 dX9_ofItem_118 rfl (lv_at hl 0 rfl) ?_
      refine lv_iload_n hx hb1 dX9_ofItem_119 rfl (lv_at hl 1 rfl) ?_
      refine hh_kI h (va_runV (As := [.int x1]) (rest := []) X.1 (ad_X9_endOf (D := D) l J x1 σ2 _ hq) (cwV 1 X.1.2.2.2.2 gX9_ofItem_X9_endOf rfl rfl rfl nd_X9_endOf ⟨Nat.le_of_ble_eq_true rfl, Nat.le_of_ble_eq_true rfl⟩) (hh_preV X h fm_0_0 km_0 [.int x1]) rfl rfl hl.1 rfl (lv_room (Nat.le_of_ble_eq_true rfl)) dX9_ofItem_120 ⟨Nat.le_of_ble_eq_true rfl, Nat.le_of_ble_eq_true rfl⟩) (fun r23 σ24 H locs hq h => ?_)
      exact hh_iret X h hr hlocks hq dX9_ofItem_123
    have hq := hq.2
    by_cases c25 : x2.toInt = 8
    · have hq := hq.1 c25
      refine hh_tabIn X (off := 113) (tgt := 124) 8 dX9_ofItem_11 c25 (by decide) (by decide) (by decide) (by decide) ?_
      refine lv_aload_n hx hb1 dX9_ofItem_124 rfl (lv_at hl 0 rfl) ?_
      refine lv_iload_n hx hb1 dX9_ofItem_125 rfl (lv_at hl 1 rfl) ?_
      refine hh_kI h (va_runV (As := [.int x1]) (rest := []) X.1 (ad_X9_sureOf (D := D) l J x1 σ2 _ hq) (cwV 1 X.1.2.2.2.2 gX9_ofItem_X9_sureOf rfl rfl rfl nd_X9_sureOf ⟨Nat.le_of_ble_eq_true rfl, Nat.le_of_ble_eq_true rfl⟩) (hh_preV X h fm_0_0 km_0 [.int x1]) rfl rfl hl.1 rfl (lv_room (Nat.le_of_ble_eq_true rfl)) dX9_ofItem_126 ⟨Nat.le_of_ble_eq_true rfl, Nat.le_of_ble_eq_true rfl⟩) (fun r26 σ27 H locs hq h => ?_)
      exact hh_iret X h hr hlocks hq dX9_ofItem_129
    have hq := hq.2
    by_cases c28 : x2.toInt = 9
    · have hq := hq.1 c28
      refine hh_tabIn X (off := 119) (tgt := 130) 9 dX9_ofItem_11 c28 (by decide) (by decide) (by decide) (by decide) ?_
      refine lv_aload_n hx hb1 dX9_ofItem_130 rfl (lv_at hl 0 rfl) ?_
      refine hh_getr X h fm_0_12 in_X9_ofItem_X9 km_0 (by decide) (List.mem_of_getElem? (i := 5) rfl) rfl dX9_ofItem_131 ?_
      refine lv_iload_n hx hb1 dX9_ofItem_134 rfl (lv_at hl 1 rfl) ?_
      obtain ⟨h29, hq⟩ := hq
      refine hh_ild X h am_10 h29 dX9_ofItem_135 ?_
      exact hh_iret X h hr hlocks hq dX9_ofItem_136
    have hq := hq.2
    have c30 := hh_out9 c4 c6 c8 c11 c13 c15 c19 c22 c25 c28
    have hq := hq c30
    refine hh_tabOut X (tgt := 137) dX9_ofItem_11 c30 (by decide) ?_
    refine lv_bipush (v := (-2 : Int32)) hx hb1 dX9_ofItem_137 (by decide) ?_
    exact hh_iret X h hr hlocks hq dX9_ofItem_139
  · have hq := hq.2 c3
    refine lv_iconst (v := (-1 : Int32)) hx hb1 dX9_ofItem_8 (by decide) ?_
    exact hh_iret X h hr hlocks hq dX9_ofItem_9
theorem nd_X9_hand : yX9_hand.cls = RX9 ∧ yX9_hand.cls ≠ "java/lang/invoke/MethodHandle" ∧ yX9_hand.cls ≠ "java/lang/invoke/VarHandle" ∧ (parseMethodDescriptor yX9_hand.desc).map (fun d => d.parameters.length) = some 0 := by decide +kernel
abbrev rm_X9_hand : Room := { frames := 0, cells := 0, slots := 0, locals := 0 }
def wq_X9_hand_34 (Q : Int32 → hh_S → Prop) (K34 : Int32 → hh_S → Prop) (x1 : Int32) (σ : hh_S) : Prop := (((24 : Int32) ≤ x1 → (∀ σ2 : hh_S, σ2 = hh_uI σ 13 ((hh_I σ 13) + (1 : Int32)) → (Q ((hh_I σ2 13) - (1 : Int32)) σ2))) ∧ (¬ (24 : Int32) ≤ x1 → (vp_in (((24 : Int32) * (hh_I σ 13)) + x1) 240 ∧ ∀ σ4 : hh_S, σ4 = hh_sA σ 13 (((24 : Int32) * (hh_I σ 13)) + x1) (0 : Int32) → (K34 (x1 + (1 : Int32)) σ4))))
def wp_X9_hand (σ : hh_S) (Q : Int32 → hh_S → Prop) : Prop := ((¬ (hh_I σ 13) = (10 : Int32) → (vp_in (hh_I σ 13) 10 ∧ ∀ σ7 : hh_S, σ7 = hh_sA σ 11 (hh_I σ 13) (vp_nar .boolean (0 : Int32)) → (vp_in (hh_I σ7 13) 10 ∧ ∀ σ9 : hh_S, σ9 = hh_sA σ7 12 (hh_I σ7 13) (0 : Int32) → (∃ n : Nat, hh_lp1 (wq_X9_hand_34 Q) n (0 : Int32) σ9)))) ∧ ((hh_I σ 13) = (10 : Int32) → (Q (-4 : Int32) σ)))
theorem in_X9_hand_X9 : ∀ w ∈ u_ws RX9 TX9 37, w ∈ wsX9_hand := fun w h => List.mem_cons_of_mem _ (List.mem_append_right _ h)
set_option maxHeartbeats 4000000 in
set_option maxRecDepth 100000 in
theorem ad_X9_hand {D : va_G} (l : Launch) {cy : Nat → ClassId} {ad : Nat → Nat} (J : hh_J hm_Y ad) (σ : hh_S) (Q : Int32 → hh_S → Prop) (hq : wp_X9_hand σ Q) : Met l yX9_hand wsX9_hand rm_X9_hand (va_Pc [.ref (ad 0)] (hh_B D hh_cl hm_Y cy ad σ)) (va_Qi Q (hh_B D hh_cl hm_Y cy ad) (hh_A hm_Y ad)) 0 0 (hh_A hm_Y ad) := by
  refine Met.ofW (cc := cX9_hand) (maxL := 2) (ret := (some .int)) (by decide) rfl ?_
  intro p e s m args below meth c s₁ B hml hv
  obtain ⟨hargs, hP0, hK0⟩ := hv
  have hr := B.returns
  have hlocks := B.notSynchronized
  have X : hh_X p m c cX9_hand 2 s args wsX9_hand RX9 D hh_cl hm_Y cy ad := ⟨⟨B.exec, B.bytes, hml, findClass_of_methodNamed B.named, atoms_spec (ws := wsX9_hand) B.pre⟩, hK0, J⟩
  have hx := X.1.1
  have hb1 := X.1.2.1
  have h : hh_H D hh_cl hm_Y cy ad s.heap σ s.heap [] := ⟨hP0, va_S.rf⟩
  have lt_34 : ∀ (n : Nat) (x1 : Int32) (σ : hh_S) (H : Heap) (locs : List Loc) (ls : Array Slot), hh_lp1 (wq_X9_hand_34 Q) n x1 σ → hh_H D hh_cl hm_Y cy ad s.heap σ H locs → lv_has ls 2 [(0, .ref (ad 0)), (1, .int x1)] → W p l e (headSpec wsX9_hand rm_X9_hand).room s m args below meth c H locs 0 0 (MQ below (va_Qi Q (hh_B D hh_cl hm_Y cy ad) (hh_A hm_Y ad)) args s 0 0 (hh_A hm_Y ad)) (F0 m 34 ls []) := by
    intro n
    induction n with
    | zero => intro x1 σ H locs ls hq h hl; exact hq.elim
    | succ n ih =>
      intro x1 σ H locs ls hq h hl
      have hq : wq_X9_hand_34 Q (hh_lp1 (wq_X9_hand_34 Q) n) x1 σ := hq
      unfold wq_X9_hand_34 at hq
      refine lv_iload_n hx hb1 dX9_hand_34 rfl (lv_at hl 1 rfl) ?_
      refine lv_bipush (v := (24 : Int32)) hx hb1 dX9_hand_35 (by decide) ?_
      refine lv_icmp_ge (tgt := 61) hx hb1 dX9_hand_37 (by decide) (fun c1 => ?_) (fun c1 => ?_)
      · have hq := hq.1 c1
        refine lv_aload_n hx hb1 dX9_hand_61 rfl (lv_at hl 0 rfl) ?_
        refine lv_dup hx hb1 dX9_hand_62 rfl ?_
        refine hh_geti X h (q := 13) fm_0_13 rfl in_X9_hand_X9 km_0 (by decide) (List.mem_of_getElem? (i := 1) rfl) rfl dX9_hand_63 ?_
        refine lv_iconst (v := (1 : Int32)) hx hb1 dX9_hand_66 (by decide) ?_
        refine lv_iadd hx hb1 dX9_hand_67 ?_
        refine hh_puti X h (q := 13) hm_n fm_0_13 rfl in_X9_hand_X9 km_0 tyX9 tyX9_ok nmX9 (by decide) (List.mem_of_getElem? (i := 1) rfl) rfl rfl rfl rfl dX9_hand_68 (fun σ2 H locs eσ2 h => ?_)
        have hq := hq σ2 eσ2
        refine lv_aload_n hx hb1 dX9_hand_71 rfl (lv_at hl 0 rfl) ?_
        refine hh_geti X h (q := 13) fm_0_13 rfl in_X9_hand_X9 km_0 (by decide) (List.mem_of_getElem? (i := 1) rfl) rfl dX9_hand_72 ?_
        refine lv_iconst (v := (1 : Int32)) hx hb1 dX9_hand_75 (by decide) ?_
        refine lv_isub hx hb1 dX9_hand_76 ?_
        exact hh_iret X h hr hlocks hq dX9_hand_77
      · have hq := hq.2 c1
        refine lv_aload_n hx hb1 dX9_hand_40 rfl (lv_at hl 0 rfl) ?_
        refine hh_getr X h fm_0_16 in_X9_hand_X9 km_0 (by decide) (List.mem_of_getElem? (i := 4) rfl) rfl dX9_hand_41 ?_
        refine lv_bipush (v := (24 : Int32)) hx hb1 dX9_hand_44 (by decide) ?_
        refine lv_aload_n hx hb1 dX9_hand_46 rfl (lv_at hl 0 rfl) ?_
        refine hh_geti X h (q := 13) fm_0_13 rfl in_X9_hand_X9 km_0 (by decide) (List.mem_of_getElem? (i := 1) rfl) rfl dX9_hand_47 ?_
        refine lv_imul hx hb1 dX9_hand_50 ?_
        refine lv_iload_n hx hb1 dX9_hand_51 rfl (lv_at hl 1 rfl) ?_
        refine lv_iadd hx hb1 dX9_hand_52 ?_
        refine lv_iconst (v := (0 : Int32)) hx hb1 dX9_hand_53 (by decide) ?_
        obtain ⟨h3, hq⟩ := hq
        refine hh_ist X h am_13 h3 dX9_hand_54 (fun σ4 H locs eσ4 h => ?_)
        have hq := hq σ4 eσ4
        refine lv_iinc (v := (x1 + (1 : Int32))) (lv' := [(1, .int (x1 + (1 : Int32))), (0, .ref (ad 0))]) hx hb1 dX9_hand_55 hl (k := 1) rfl rfl (by decide) rfl (fun ls hl => ?_)
        refine lv_goto (tgt := 34) hx hb1 dX9_hand_58 (by decide) ?_
        exact ih (x1 + (1 : Int32)) σ4 _ _ ls hq h (lv_sub hl [1, 0] rfl)
  subst hargs
  refine hh_entry (vs := [.ref (ad 0)]) (Nat.le_of_ble_eq_true rfl) (fun ls hl => ?_)
  have hl : lv_has ls 2 [(0, .ref (ad 0))] := hl
  have hq : wp_X9_hand σ Q := hq
  unfold wp_X9_hand at hq
  refine lv_aload_n hx hb1 dX9_hand_0 rfl (lv_at hl 0 rfl) ?_
  refine hh_geti X h (q := 13) fm_0_13 rfl in_X9_hand_X9 km_0 (by decide) (List.mem_of_getElem? (i := 1) rfl) rfl dX9_hand_1 ?_
  refine lv_bipush (v := (10 : Int32)) hx hb1 dX9_hand_4 (by decide) ?_
  refine lv_icmp_ne (tgt := 12) hx hb1 dX9_hand_6 (by decide) (fun c5 => ?_) (fun c5 => ?_)
  · have hq := hq.1 c5
    refine lv_aload_n hx hb1 dX9_hand_12 rfl (lv_at hl 0 rfl) ?_
    refine hh_getr X h fm_0_14 in_X9_hand_X9 km_0 (by decide) (List.mem_of_getElem? (i := 2) rfl) rfl dX9_hand_13 ?_
    refine lv_aload_n hx hb1 dX9_hand_16 rfl (lv_at hl 0 rfl) ?_
    refine hh_geti X h (q := 13) fm_0_13 rfl in_X9_hand_X9 km_0 (by decide) (List.mem_of_getElem? (i := 1) rfl) rfl dX9_hand_17 ?_
    refine lv_iconst (v := (0 : Int32)) hx hb1 dX9_hand_20 (by decide) ?_
    obtain ⟨h6, hq⟩ := hq
    refine hh_zst X h am_11 h6 dX9_hand_21 (fun σ7 H locs eσ7 h => ?_)
    have hq := hq σ7 eσ7
    refine lv_aload_n hx hb1 dX9_hand_22 rfl (lv_at hl 0 rfl) ?_
    refine hh_getr X h fm_0_15 in_X9_hand_X9 km_0 (by decide) (List.mem_of_getElem? (i := 3) rfl) rfl dX9_hand_23 ?_
    refine lv_aload_n hx hb1 dX9_hand_26 rfl (lv_at hl 0 rfl) ?_
    refine hh_geti X h (q := 13) fm_0_13 rfl in_X9_hand_X9 km_0 (by decide) (List.mem_of_getElem? (i := 1) rfl) rfl dX9_hand_27 ?_
    refine lv_iconst (v := (0 : Int32)) hx hb1 dX9_hand_30 (by decide) ?_
    obtain ⟨h8, hq⟩ := hq
    refine hh_ist X h am_12 h8 dX9_hand_31 (fun σ9 H locs eσ9 h => ?_)
    have hq := hq σ9 eσ9
    refine lv_iconst (v := (0 : Int32)) hx hb1 dX9_hand_32 (by decide) ?_
    refine lv_istore_n (lv' := [(1, .int (0 : Int32)), (0, .ref (ad 0))]) hx hb1 dX9_hand_33 rfl hl (by decide) rfl (fun ls hl => ?_)
    obtain ⟨n10, hq⟩ := hq
    exact lt_34 n10 (0 : Int32) σ9 _ _ ls hq h (lv_sub hl [1, 0] rfl)
  · have hq := hq.2 c5
    refine lv_bipush (v := (-4 : Int32)) hx hb1 dX9_hand_9 (by decide) ?_
    exact hh_iret X h hr hlocks hq dX9_hand_11
theorem nd_X9_out : yX9_out.cls = RX9 ∧ yX9_out.cls ≠ "java/lang/invoke/MethodHandle" ∧ yX9_out.cls ≠ "java/lang/invoke/VarHandle" ∧ (parseMethodDescriptor yX9_out.desc).map (fun d => d.parameters.length) = some 2 := by decide +kernel
abbrev rm_X9_out : Room := { frames := 2, cells := 0, slots := 0, locals := 43 }
def wp_X9_out (x1 : Int32) (x2 : Int32) (σ : hh_S) (Q : Int32 → hh_S → Prop) : Prop := (wp_X9_isHand x1 σ (fun (r1 : Int32) (σ2 : hh_S) => ((¬ r1 = 0 → (vp_in x1 10 ∧ (((hh_rA σ2 11 x1) = 0 → (vp_in x1 10 ∧ ∀ σ7 : hh_S, σ7 = hh_sA σ2 11 x1 (vp_nar .boolean x2) → (Q (0 : Int32) σ7))) ∧ (¬ (hh_rA σ2 11 x1) = 0 → (vp_in x1 10 ∧ ∀ σ9 : hh_S, σ9 = hh_sA σ2 11 x1 (vp_nar .boolean x2) → (Q (1 : Int32) σ9)))))) ∧ (r1 = 0 → (Q (-1 : Int32) σ2)))))
theorem in_X9_out_X9 : ∀ w ∈ u_ws RX9 TX9 37, w ∈ wsX9_out := fun w h => List.mem_cons_of_mem _ (List.mem_append_right _ h)
set_option maxHeartbeats 4000000 in
set_option maxRecDepth 100000 in
theorem ad_X9_out {D : va_G} (l : Launch) {cy : Nat → ClassId} {ad : Nat → Nat} (J : hh_J hm_Y ad) (x1 : Int32) (x2 : Int32) (σ : hh_S) (Q : Int32 → hh_S → Prop) (hq : wp_X9_out x1 x2 σ Q) : Met l yX9_out wsX9_out rm_X9_out (va_Pc [.ref (ad 0), .int x1, .int x2] (hh_B D hh_cl hm_Y cy ad σ)) (va_Qi Q (hh_B D hh_cl hm_Y cy ad) (hh_A hm_Y ad)) 0 0 (hh_A hm_Y ad) := by
  refine Met.ofW (cc := cX9_out) (maxL := 4) (ret := (some .int)) (by decide) rfl ?_
  intro p e s m args below meth c s₁ B hml hv
  obtain ⟨hargs, hP0, hK0⟩ := hv
  have hr := B.returns
  have hlocks := B.notSynchronized
  have X : hh_X p m c cX9_out 4 s args wsX9_out RX9 D hh_cl hm_Y cy ad := ⟨⟨B.exec, B.bytes, hml, findClass_of_methodNamed B.named, atoms_spec (ws := wsX9_out) B.pre⟩, hK0, J⟩
  have hx := X.1.1
  have hb1 := X.1.2.1
  have h : hh_H D hh_cl hm_Y cy ad s.heap σ s.heap [] := ⟨hP0, va_S.rf⟩
  subst hargs
  refine hh_entry (vs := [.ref (ad 0), .int x1, .int x2]) (Nat.le_of_ble_eq_true rfl) (fun ls hl => ?_)
  have hl : lv_has ls 4 [(0, .ref (ad 0)), (1, .int x1), (2, .int x2)] := hl
  have hq : wp_X9_out x1 x2 σ Q := hq
  unfold wp_X9_out at hq
  refine lv_aload_n hx hb1 dX9_out_0 rfl (lv_at hl 0 rfl) ?_
  refine lv_iload_n hx hb1 dX9_out_1 rfl (lv_at hl 1 rfl) ?_
  refine hh_kI h (va_runV (As := [.int x1]) (rest := []) X.1 (ad_X9_isHand (D := D) l J x1 σ _ hq) (cwV 1 X.1.2.2.2.2 gX9_out_X9_isHand rfl rfl rfl nd_X9_isHand ⟨Nat.le_of_ble_eq_true rfl, Nat.le_of_ble_eq_true rfl⟩) (hh_preV X h fm_0_0 km_0 [.int x1]) rfl rfl hl.1 rfl (lv_room (Nat.le_of_ble_eq_true rfl)) dX9_out_2 ⟨Nat.le_of_ble_eq_true rfl, Nat.le_of_ble_eq_true rfl⟩) (fun r1 σ2 H locs hq h => ?_)
  refine lv_if_ne (tgt := 10) hx hb1 dX9_out_5 (by decide) (fun c3 => ?_) (fun c3 => ?_)
  · have hq := hq.1 c3
    refine lv_aload_n hx hb1 dX9_out_10 rfl (lv_at hl 0 rfl) ?_
    refine hh_getr X h fm_0_14 in_X9_out_X9 km_0 (by decide) (List.mem_of_getElem? (i := 1) rfl) rfl dX9_out_11 ?_
    refine lv_iload_n hx hb1 dX9_out_14 rfl (lv_at hl 1 rfl) ?_
    obtain ⟨h4, hq⟩ := hq
    refine hh_zld X h am_11 h4 dX9_out_15 ?_
    refine lv_if_eq (tgt := 23) hx hb1 dX9_out_16 (by decide) (fun c5 => ?_) (fun c5 => ?_)
    · have hq := hq.1 c5
      refine lv_iconst (v := (0 : Int32)) hx hb1 dX9_out_23 (by decide) ?_
      refine lv_istore_n (lv' := [(3, .int (0 : Int32)), (0, .ref (ad 0)), (1, .int x1), (2, .int x2)]) hx hb1 dX9_out_24 rfl hl (by decide) rfl (fun ls hl => ?_)
      refine lv_aload_n hx hb1 dX9_out_25 rfl (lv_at hl 1 rfl) ?_
      refine hh_getr X h fm_0_14 in_X9_out_X9 km_0 (by decide) (List.mem_of_getElem? (i := 1) rfl) rfl dX9_out_26 ?_
      refine lv_iload_n hx hb1 dX9_out_29 rfl (lv_at hl 2 rfl) ?_
      refine lv_iload_n hx hb1 dX9_out_30 rfl (lv_at hl 3 rfl) ?_
      obtain ⟨h6, hq⟩ := hq
      refine hh_zst X h am_11 h6 dX9_out_31 (fun σ7 H locs eσ7 h => ?_)
      have hq := hq σ7 eσ7
      refine lv_iload_n hx hb1 dX9_out_32 rfl (lv_at hl 0 rfl) ?_
      exact hh_iret X h hr hlocks hq dX9_out_33
    · have hq := hq.2 c5
      refine lv_iconst (v := (1 : Int32)) hx hb1 dX9_out_19 (by decide) ?_
      refine lv_goto (tgt := 24) hx hb1 dX9_out_20 (by decide) ?_
      refine lv_istore_n (lv' := [(3, .int (1 : Int32)), (0, .ref (ad 0)), (1, .int x1), (2, .int x2)]) hx hb1 dX9_out_24 rfl hl (by decide) rfl (fun ls hl => ?_)
      refine lv_aload_n hx hb1 dX9_out_25 rfl (lv_at hl 1 rfl) ?_
      refine hh_getr X h fm_0_14 in_X9_out_X9 km_0 (by decide) (List.mem_of_getElem? (i := 1) rfl) rfl dX9_out_26 ?_
      refine lv_iload_n hx hb1 dX9_out_29 rfl (lv_at hl 2 rfl) ?_
      refine lv_iload_n hx hb1 dX9_out_30 rfl (lv_at hl 3 rfl) ?_
      obtain ⟨h8, hq⟩ := hq
      refine hh_zst X h am_11 h8 dX9_out_31 (fun σ9 H locs eσ9 h => ?_)
      have hq := hq σ9 eσ9
      refine lv_iload_n hx hb1 dX9_out_32 rfl (lv_at hl 0 rfl) ?_
      exact hh_iret X h hr hlocks hq dX9_out_33
  · have hq := hq.2 c3
    refine lv_iconst (v := (-1 : Int32)) hx hb1 dX9_out_8 (by decide) ?_
    exact hh_iret X h hr hlocks hq dX9_out_9
theorem nd_X9_answer : yX9_answer.cls = RX9 ∧ yX9_answer.cls ≠ "java/lang/invoke/MethodHandle" ∧ yX9_answer.cls ≠ "java/lang/invoke/VarHandle" ∧ (parseMethodDescriptor yX9_answer.desc).map (fun d => d.parameters.length) = some 3 := by decide +kernel
abbrev rm_X9_answer : Room := { frames := 5, cells := 0, slots := 0, locals := 112 }
def wp_X9_answer (x1 : Int32) (x2 : Int32) (x3 : Int32) (σ : hh_S) (Q : Int32 → hh_S → Prop) : Prop := (wp_X9_isHand x1 σ (fun (r1 : Int32) (σ2 : hh_S) => ((r1 = 0 → (Q (-1 : Int32) σ2)) ∧ (¬ r1 = 0 → (wp_X9_isLabel x2 x3 σ2 (fun (r4 : Int32) (σ5 : hh_S) => ((¬ r4 = 0 → (wp_X9_isOpen x2 σ5 (fun (r7 : Int32) (σ8 : hh_S) => ((r7 = 0 → (Q (-3 : Int32) σ8)) ∧ (¬ r7 = 0 → (vp_in x1 10 ∧ (((hh_rA σ8 11 x1) = 0 → (vp_in (((24 : Int32) * x1) + x2) 240 ∧ (((hh_rA σ8 13 (((24 : Int32) * x1) + x2)) ≤ 0 → (vp_in (((24 : Int32) * x1) + x2) 240 ∧ ∀ σ15 : hh_S, σ15 = hh_sA σ8 13 (((24 : Int32) * x1) + x2) (x3 + (1 : Int32)) → (Q (1 : Int32) σ15))) ∧ (¬ (hh_rA σ8 13 (((24 : Int32) * x1) + x2)) ≤ 0 → (Q (-5 : Int32) σ8))))) ∧ (¬ (hh_rA σ8 11 x1) = 0 → (Q (-3 : Int32) σ8))))))))) ∧ (r4 = 0 → (Q (-1 : Int32) σ5)))))))))
theorem in_X9_answer_X9 : ∀ w ∈ u_ws RX9 TX9 37, w ∈ wsX9_answer := fun w h => List.mem_cons_of_mem _ (List.mem_append_right _ h)
set_option maxHeartbeats 4000000 in
set_option maxRecDepth 100000 in
theorem ad_X9_answer {D : va_G} (l : Launch) {cy : Nat → ClassId} {ad : Nat → Nat} (J : hh_J hm_Y ad) (x1 : Int32) (x2 : Int32) (x3 : Int32) (σ : hh_S) (Q : Int32 → hh_S → Prop) (hq : wp_X9_answer x1 x2 x3 σ Q) : Met l yX9_answer wsX9_answer rm_X9_answer (va_Pc [.ref (ad 0), .int x1, .int x2, .int x3] (hh_B D hh_cl hm_Y cy ad σ)) (va_Qi Q (hh_B D hh_cl hm_Y cy ad) (hh_A hm_Y ad)) 0 0 (hh_A hm_Y ad) := by
  refine Met.ofW (cc := cX9_answer) (maxL := 4) (ret := (some .int)) (by decide) rfl ?_
  intro p e s m args below meth c s₁ B hml hv
  obtain ⟨hargs, hP0, hK0⟩ := hv
  have hr := B.returns
  have hlocks := B.notSynchronized
  have X : hh_X p m c cX9_answer 4 s args wsX9_answer RX9 D hh_cl hm_Y cy ad := ⟨⟨B.exec, B.bytes, hml, findClass_of_methodNamed B.named, atoms_spec (ws := wsX9_answer) B.pre⟩, hK0, J⟩
  have hx := X.1.1
  have hb1 := X.1.2.1
  have h : hh_H D hh_cl hm_Y cy ad s.heap σ s.heap [] := ⟨hP0, va_S.rf⟩
  subst hargs
  refine hh_entry (vs := [.ref (ad 0), .int x1, .int x2, .int x3]) (Nat.le_of_ble_eq_true rfl) (fun ls hl => ?_)
  have hl : lv_has ls 4 [(0, .ref (ad 0)), (1, .int x1), (2, .int x2), (3, .int x3)] := hl
  have hq : wp_X9_answer x1 x2 x3 σ Q := hq
  unfold wp_X9_answer at hq
  refine lv_aload_n hx hb1 dX9_answer_0 rfl (lv_at hl 0 rfl) ?_
  refine lv_iload_n hx hb1 dX9_answer_1 rfl (lv_at hl 1 rfl) ?_
  refine hh_kI h (va_runV (As := [.int x1]) (rest := []) X.1 (ad_X9_isHand (D := D) l J x1 σ _ hq) (cwV 1 X.1.2.2.2.2 gX9_answer_X9_isHand rfl rfl rfl nd_X9_isHand ⟨Nat.le_of_ble_eq_true rfl, Nat.le_of_ble_eq_true rfl⟩) (hh_preV X h fm_0_0 km_0 [.int x1]) rfl rfl hl.1 rfl (lv_room (Nat.le_of_ble_eq_true rfl)) dX9_answer_2 ⟨Nat.le_of_ble_eq_true rfl, Nat.le_of_ble_eq_true rfl⟩) (fun r1 σ2 H locs hq h => ?_)
  refine lv_if_eq (tgt := 17) hx hb1 dX9_answer_5 (by decide) (fun c3 => ?_) (fun c3 => ?_)
  · have hq := hq.1 c3
    refine lv_iconst (v := (-1 : Int32)) hx hb1 dX9_answer_17 (by decide) ?_
    exact hh_iret X h hr hlocks hq dX9_answer_18
  · have hq := hq.2 c3
    refine lv_aload_n hx hb1 dX9_answer_8 rfl (lv_at hl 0 rfl) ?_
    refine lv_iload_n hx hb1 dX9_answer_9 rfl (lv_at hl 2 rfl) ?_
    refine lv_iload_n hx hb1 dX9_answer_10 rfl (lv_at hl 3 rfl) ?_
    refine hh_kI h (va_runV (As := [.int x2, .int x3]) (rest := []) X.1 (ad_X9_isLabel (D := D) l J x2 x3 σ2 _ hq) (cwV 2 X.1.2.2.2.2 gX9_answer_X9_isLabel rfl rfl rfl nd_X9_isLabel ⟨Nat.le_of_ble_eq_true rfl, Nat.le_of_ble_eq_true rfl⟩) (hh_preV X h fm_0_0 km_0 [.int x2, .int x3]) rfl rfl hl.1 rfl (lv_room (Nat.le_of_ble_eq_true rfl)) dX9_answer_11 ⟨Nat.le_of_ble_eq_true rfl, Nat.le_of_ble_eq_true rfl⟩) (fun r4 σ5 H locs hq h => ?_)
    refine lv_if_ne (tgt := 19) hx hb1 dX9_answer_14 (by decide) (fun c6 => ?_) (fun c6 => ?_)
    · have hq := hq.1 c6
      refine lv_aload_n hx hb1 dX9_answer_19 rfl (lv_at hl 0 rfl) ?_
      refine lv_iload_n hx hb1 dX9_answer_20 rfl (lv_at hl 2 rfl) ?_
      refine hh_kI h (va_runV (As := [.int x2]) (rest := []) X.1 (ad_X9_isOpen (D := D) l J x2 σ5 _ hq) (cwV 1 X.1.2.2.2.2 gX9_answer_X9_isOpen rfl rfl rfl nd_X9_isOpen ⟨Nat.le_of_ble_eq_true rfl, Nat.le_of_ble_eq_true rfl⟩) (hh_preV X h fm_0_0 km_0 [.int x2]) rfl rfl hl.1 rfl (lv_room (Nat.le_of_ble_eq_true rfl)) dX9_answer_21 ⟨Nat.le_of_ble_eq_true rfl, Nat.le_of_ble_eq_true rfl⟩) (fun r7 σ8 H locs hq h => ?_)
      refine lv_if_eq (tgt := 36) hx hb1 dX9_answer_24 (by decide) (fun c9 => ?_) (fun c9 => ?_)
      · have hq := hq.1 c9
        refine lv_bipush (v := (-3 : Int32)) hx hb1 dX9_answer_36 (by decide) ?_
        exact hh_iret X h hr hlocks hq dX9_answer_38
      · have hq := hq.2 c9
        refine lv_aload_n hx hb1 dX9_answer_27 rfl (lv_at hl 0 rfl) ?_
        refine hh_getr X h fm_0_14 in_X9_answer_X9 km_0 (by decide) (List.mem_of_getElem? (i := 1) rfl) rfl dX9_answer_28 ?_
        refine lv_iload_n hx hb1 dX9_answer_31 rfl (lv_at hl 1 rfl) ?_
        obtain ⟨h10, hq⟩ := hq
        refine hh_zld X h am_11 h10 dX9_answer_32 ?_
        refine lv_if_eq (tgt := 39) hx hb1 dX9_answer_33 (by decide) (fun c11 => ?_) (fun c11 => ?_)
        · have hq := hq.1 c11
          refine lv_aload_n hx hb1 dX9_answer_39 rfl (lv_at hl 0 rfl) ?_
          refine hh_getr X h fm_0_16 in_X9_answer_X9 km_0 (by decide) (List.mem_of_getElem? (i := 2) rfl) rfl dX9_answer_40 ?_
          refine lv_bipush (v := (24 : Int32)) hx hb1 dX9_answer_43 (by decide) ?_
          refine lv_iload_n hx hb1 dX9_answer_45 rfl (lv_at hl 1 rfl) ?_
          refine lv_imul hx hb1 dX9_answer_46 ?_
          refine lv_iload_n hx hb1 dX9_answer_47 rfl (lv_at hl 2 rfl) ?_
          refine lv_iadd hx hb1 dX9_answer_48 ?_
          obtain ⟨h12, hq⟩ := hq
          refine hh_ild X h am_13 h12 dX9_answer_49 ?_
          refine lv_if_le (tgt := 56) hx hb1 dX9_answer_50 (by decide) (fun c13 => ?_) (fun c13 => ?_)
          · have hq := hq.1 c13
            refine lv_aload_n hx hb1 dX9_answer_56 rfl (lv_at hl 0 rfl) ?_
            refine hh_getr X h fm_0_16 in_X9_answer_X9 km_0 (by decide) (List.mem_of_getElem? (i := 2) rfl) rfl dX9_answer_57 ?_
            refine lv_bipush (v := (24 : Int32)) hx hb1 dX9_answer_60 (by decide) ?_
            refine lv_iload_n hx hb1 dX9_answer_62 rfl (lv_at hl 1 rfl) ?_
            refine lv_imul hx hb1 dX9_answer_63 ?_
            refine lv_iload_n hx hb1 dX9_answer_64 rfl (lv_at hl 2 rfl) ?_
            refine lv_iadd hx hb1 dX9_answer_65 ?_
            refine lv_iload_n hx hb1 dX9_answer_66 rfl (lv_at hl 3 rfl) ?_
            refine lv_iconst (v := (1 : Int32)) hx hb1 dX9_answer_67 (by decide) ?_
            refine lv_iadd hx hb1 dX9_answer_68 ?_
            obtain ⟨h14, hq⟩ := hq
            refine hh_ist X h am_13 h14 dX9_answer_69 (fun σ15 H locs eσ15 h => ?_)
            have hq := hq σ15 eσ15
            refine lv_iconst (v := (1 : Int32)) hx hb1 dX9_answer_70 (by decide) ?_
            exact hh_iret X h hr hlocks hq dX9_answer_71
          · have hq := hq.2 c13
            refine lv_bipush (v := (-5 : Int32)) hx hb1 dX9_answer_53 (by decide) ?_
            exact hh_iret X h hr hlocks hq dX9_answer_55
        · have hq := hq.2 c11
          refine lv_bipush (v := (-3 : Int32)) hx hb1 dX9_answer_36 (by decide) ?_
          exact hh_iret X h hr hlocks hq dX9_answer_38
    · have hq := hq.2 c6
      refine lv_iconst (v := (-1 : Int32)) hx hb1 dX9_answer_17 (by decide) ?_
      exact hh_iret X h hr hlocks hq dX9_answer_18
theorem nd_X9_back : yX9_back.cls = RX9 ∧ yX9_back.cls ≠ "java/lang/invoke/MethodHandle" ∧ yX9_back.cls ≠ "java/lang/invoke/VarHandle" ∧ (parseMethodDescriptor yX9_back.desc).map (fun d => d.parameters.length) = some 2 := by decide +kernel
abbrev rm_X9_back : Room := { frames := 2, cells := 0, slots := 0, locals := 43 }
def wp_X9_back (x1 : Int32) (x2 : Int32) (σ : hh_S) (Q : Int32 → hh_S → Prop) : Prop := (wp_X9_isHand x1 σ (fun (r1 : Int32) (σ2 : hh_S) => ((r1 = 0 → (Q (-1 : Int32) σ2)) ∧ (¬ r1 = 0 → (wp_X9_isItem x2 σ2 (fun (r4 : Int32) (σ5 : hh_S) => ((¬ r4 = 0 → (vp_in (((24 : Int32) * x1) + x2) 240 ∧ (∀ v8 : Int32, v8 = (hh_rA σ5 13 (((24 : Int32) * x1) + x2)) → (vp_in (((24 : Int32) * x1) + x2) 240 ∧ ∀ σ10 : hh_S, σ10 = hh_sA σ5 13 (((24 : Int32) * x1) + x2) (0 : Int32) → ((¬ v8 = 0 → (Q (v8 - (1 : Int32)) σ10)) ∧ (v8 = 0 → (Q (-5 : Int32) σ10))))))) ∧ (r4 = 0 → (Q (-1 : Int32) σ5)))))))))
theorem in_X9_back_X9 : ∀ w ∈ u_ws RX9 TX9 37, w ∈ wsX9_back := fun w h => List.mem_cons_of_mem _ (List.mem_append_right _ h)
set_option maxHeartbeats 4000000 in
set_option maxRecDepth 100000 in
theorem ad_X9_back {D : va_G} (l : Launch) {cy : Nat → ClassId} {ad : Nat → Nat} (J : hh_J hm_Y ad) (x1 : Int32) (x2 : Int32) (σ : hh_S) (Q : Int32 → hh_S → Prop) (hq : wp_X9_back x1 x2 σ Q) : Met l yX9_back wsX9_back rm_X9_back (va_Pc [.ref (ad 0), .int x1, .int x2] (hh_B D hh_cl hm_Y cy ad σ)) (va_Qi Q (hh_B D hh_cl hm_Y cy ad) (hh_A hm_Y ad)) 0 0 (hh_A hm_Y ad) := by
  refine Met.ofW (cc := cX9_back) (maxL := 4) (ret := (some .int)) (by decide) rfl ?_
  intro p e s m args below meth c s₁ B hml hv
  obtain ⟨hargs, hP0, hK0⟩ := hv
  have hr := B.returns
  have hlocks := B.notSynchronized
  have X : hh_X p m c cX9_back 4 s args wsX9_back RX9 D hh_cl hm_Y cy ad := ⟨⟨B.exec, B.bytes, hml, findClass_of_methodNamed B.named, atoms_spec (ws := wsX9_back) B.pre⟩, hK0, J⟩
  have hx := X.1.1
  have hb1 := X.1.2.1
  have h : hh_H D hh_cl hm_Y cy ad s.heap σ s.heap [] := ⟨hP0, va_S.rf⟩
  subst hargs
  refine hh_entry (vs := [.ref (ad 0), .int x1, .int x2]) (Nat.le_of_ble_eq_true rfl) (fun ls hl => ?_)
  have hl : lv_has ls 4 [(0, .ref (ad 0)), (1, .int x1), (2, .int x2)] := hl
  have hq : wp_X9_back x1 x2 σ Q := hq
  unfold wp_X9_back at hq
  refine lv_aload_n hx hb1 dX9_back_0 rfl (lv_at hl 0 rfl) ?_
  refine lv_iload_n hx hb1 dX9_back_1 rfl (lv_at hl 1 rfl) ?_
  refine hh_kI h (va_runV (As := [.int x1]) (rest := []) X.1 (ad_X9_isHand (D := D) l J x1 σ _ hq) (cwV 1 X.1.2.2.2.2 gX9_back_X9_isHand rfl rfl rfl nd_X9_isHand ⟨Nat.le_of_ble_eq_true rfl, Nat.le_of_ble_eq_true rfl⟩) (hh_preV X h fm_0_0 km_0 [.int x1]) rfl rfl hl.1 rfl (lv_room (Nat.le_of_ble_eq_true rfl)) dX9_back_2 ⟨Nat.le_of_ble_eq_true rfl, Nat.le_of_ble_eq_true rfl⟩) (fun r1 σ2 H locs hq h => ?_)
  refine lv_if_eq (tgt := 16) hx hb1 dX9_back_5 (by decide) (fun c3 => ?_) (fun c3 => ?_)
  · have hq := hq.1 c3
    refine lv_iconst (v := (-1 : Int32)) hx hb1 dX9_back_16 (by decide) ?_
    exact hh_iret X h hr hlocks hq dX9_back_17
  · have hq := hq.2 c3
    refine lv_aload_n hx hb1 dX9_back_8 rfl (lv_at hl 0 rfl) ?_
    refine lv_iload_n hx hb1 dX9_back_9 rfl (lv_at hl 2 rfl) ?_
    refine hh_kI h (va_runV (As := [.int x2]) (rest := []) X.1 (ad_X9_isItem (D := D) l J x2 σ2 _ hq) (cwV 1 X.1.2.2.2.2 gX9_back_X9_isItem rfl rfl rfl nd_X9_isItem ⟨Nat.le_of_ble_eq_true rfl, Nat.le_of_ble_eq_true rfl⟩) (hh_preV X h fm_0_0 km_0 [.int x2]) rfl rfl hl.1 rfl (lv_room (Nat.le_of_ble_eq_true rfl)) dX9_back_10 ⟨Nat.le_of_ble_eq_true rfl, Nat.le_of_ble_eq_true rfl⟩) (fun r4 σ5 H locs hq h => ?_)
    refine lv_if_ne (tgt := 18) hx hb1 dX9_back_13 (by decide) (fun c6 => ?_) (fun c6 => ?_)
    · have hq := hq.1 c6
      refine lv_aload_n hx hb1 dX9_back_18 rfl (lv_at hl 0 rfl) ?_
      refine hh_getr X h fm_0_16 in_X9_back_X9 km_0 (by decide) (List.mem_of_getElem? (i := 1) rfl) rfl dX9_back_19 ?_
      refine lv_bipush (v := (24 : Int32)) hx hb1 dX9_back_22 (by decide) ?_
      refine lv_iload_n hx hb1 dX9_back_24 rfl (lv_at hl 1 rfl) ?_
      refine lv_imul hx hb1 dX9_back_25 ?_
      refine lv_iload_n hx hb1 dX9_back_26 rfl (lv_at hl 2 rfl) ?_
      refine lv_iadd hx hb1 dX9_back_27 ?_
      obtain ⟨h7, hq⟩ := hq
      refine hh_ild X h am_13 h7 dX9_back_28 ?_
      refine lv_topi (fun v8 ev8 => ?_)
      have hq := hq v8 ev8
      refine lv_istore_n (lv' := [(3, .int v8), (0, .ref (ad 0)), (1, .int x1), (2, .int x2)]) hx hb1 dX9_back_29 rfl hl (by decide) rfl (fun ls hl => ?_)
      refine lv_aload_n hx hb1 dX9_back_30 rfl (lv_at hl 1 rfl) ?_
      refine hh_getr X h fm_0_16 in_X9_back_X9 km_0 (by decide) (List.mem_of_getElem? (i := 1) rfl) rfl dX9_back_31 ?_
      refine lv_bipush (v := (24 : Int32)) hx hb1 dX9_back_34 (by decide) ?_
      refine lv_iload_n hx hb1 dX9_back_36 rfl (lv_at hl 2 rfl) ?_
      refine lv_imul hx hb1 dX9_back_37 ?_
      refine lv_iload_n hx hb1 dX9_back_38 rfl (lv_at hl 3 rfl) ?_
      refine lv_iadd hx hb1 dX9_back_39 ?_
      refine lv_iconst (v := (0 : Int32)) hx hb1 dX9_back_40 (by decide) ?_
      obtain ⟨h9, hq⟩ := hq
      refine hh_ist X h am_13 h9 dX9_back_41 (fun σ10 H locs eσ10 h => ?_)
      have hq := hq σ10 eσ10
      refine lv_iload_n hx hb1 dX9_back_42 rfl (lv_at hl 0 rfl) ?_
      refine lv_if_ne (tgt := 51) hx hb1 dX9_back_43 (by decide) (fun c11 => ?_) (fun c11 => ?_)
      · have hq := hq.1 c11
        refine lv_iload_n hx hb1 dX9_back_51 rfl (lv_at hl 0 rfl) ?_
        refine lv_iconst (v := (1 : Int32)) hx hb1 dX9_back_52 (by decide) ?_
        refine lv_isub hx hb1 dX9_back_53 ?_
        exact hh_iret X h hr hlocks hq dX9_back_54
      · have hq := hq.2 c11
        refine lv_bipush (v := (-5 : Int32)) hx hb1 dX9_back_46 (by decide) ?_
        refine lv_goto (tgt := 54) hx hb1 dX9_back_48 (by decide) ?_
        exact hh_iret X h hr hlocks hq dX9_back_54
    · have hq := hq.2 c6
      refine lv_iconst (v := (-1 : Int32)) hx hb1 dX9_back_16 (by decide) ?_
      exact hh_iret X h hr hlocks hq dX9_back_17
theorem nd_X9_said : yX9_said.cls = RX9 ∧ yX9_said.cls ≠ "java/lang/invoke/MethodHandle" ∧ yX9_said.cls ≠ "java/lang/invoke/VarHandle" ∧ (parseMethodDescriptor yX9_said.desc).map (fun d => d.parameters.length) = some 2 := by decide +kernel
abbrev rm_X9_said : Room := { frames := 2, cells := 0, slots := 0, locals := 43 }
def wp_X9_said (x1 : Int32) (x2 : Int32) (σ : hh_S) (Q : Int32 → hh_S → Prop) : Prop := (wp_X9_isHand x1 σ (fun (r1 : Int32) (σ2 : hh_S) => ((r1 = 0 → (Q (-1 : Int32) σ2)) ∧ (¬ r1 = 0 → (wp_X9_isItem x2 σ2 (fun (r4 : Int32) (σ5 : hh_S) => ((¬ r4 = 0 → (vp_in (((24 : Int32) * x1) + x2) 240 ∧ ((¬ (hh_rA σ5 13 (((24 : Int32) * x1) + x2)) = 0 → (vp_in (((24 : Int32) * x1) + x2) 240 ∧ (Q ((hh_rA σ5 13 (((24 : Int32) * x1) + x2)) - (1 : Int32)) σ5))) ∧ ((hh_rA σ5 13 (((24 : Int32) * x1) + x2)) = 0 → (Q (-6 : Int32) σ5))))) ∧ (r4 = 0 → (Q (-1 : Int32) σ5)))))))))
theorem in_X9_said_X9 : ∀ w ∈ u_ws RX9 TX9 37, w ∈ wsX9_said := fun w h => List.mem_cons_of_mem _ (List.mem_append_right _ h)
set_option maxHeartbeats 4000000 in
set_option maxRecDepth 100000 in
theorem ad_X9_said {D : va_G} (l : Launch) {cy : Nat → ClassId} {ad : Nat → Nat} (J : hh_J hm_Y ad) (x1 : Int32) (x2 : Int32) (σ : hh_S) (Q : Int32 → hh_S → Prop) (hq : wp_X9_said x1 x2 σ Q) : Met l yX9_said wsX9_said rm_X9_said (va_Pc [.ref (ad 0), .int x1, .int x2] (hh_B D hh_cl hm_Y cy ad σ)) (va_Qi Q (hh_B D hh_cl hm_Y cy ad) (hh_A hm_Y ad)) 0 0 (hh_A hm_Y ad) := by
  refine Met.ofW (cc := cX9_said) (maxL := 3) (ret := (some .int)) (by decide) rfl ?_
  intro p e s m args below meth c s₁ B hml hv
  obtain ⟨hargs, hP0, hK0⟩ := hv
  have hr := B.returns
  have hlocks := B.notSynchronized
  have X : hh_X p m c cX9_said 3 s args wsX9_said RX9 D hh_cl hm_Y cy ad := ⟨⟨B.exec, B.bytes, hml, findClass_of_methodNamed B.named, atoms_spec (ws := wsX9_said) B.pre⟩, hK0, J⟩
  have hx := X.1.1
  have hb1 := X.1.2.1
  have h : hh_H D hh_cl hm_Y cy ad s.heap σ s.heap [] := ⟨hP0, va_S.rf⟩
  subst hargs
  refine hh_entry (vs := [.ref (ad 0), .int x1, .int x2]) (Nat.le_of_ble_eq_true rfl) (fun ls hl => ?_)
  have hl : lv_has ls 3 [(0, .ref (ad 0)), (1, .int x1), (2, .int x2)] := hl
  have hq : wp_X9_said x1 x2 σ Q := hq
  unfold wp_X9_said at hq
  refine lv_aload_n hx hb1 dX9_said_0 rfl (lv_at hl 0 rfl) ?_
  refine lv_iload_n hx hb1 dX9_said_1 rfl (lv_at hl 1 rfl) ?_
  refine hh_kI h (va_runV (As := [.int x1]) (rest := []) X.1 (ad_X9_isHand (D := D) l J x1 σ _ hq) (cwV 1 X.1.2.2.2.2 gX9_said_X9_isHand rfl rfl rfl nd_X9_isHand ⟨Nat.le_of_ble_eq_true rfl, Nat.le_of_ble_eq_true rfl⟩) (hh_preV X h fm_0_0 km_0 [.int x1]) rfl rfl hl.1 rfl (lv_room (Nat.le_of_ble_eq_true rfl)) dX9_said_2 ⟨Nat.le_of_ble_eq_true rfl, Nat.le_of_ble_eq_true rfl⟩) (fun r1 σ2 H locs hq h => ?_)
  refine lv_if_eq (tgt := 16) hx hb1 dX9_said_5 (by decide) (fun c3 => ?_) (fun c3 => ?_)
  · have hq := hq.1 c3
    refine lv_iconst (v := (-1 : Int32)) hx hb1 dX9_said_16 (by decide) ?_
    exact hh_iret X h hr hlocks hq dX9_said_17
  · have hq := hq.2 c3
    refine lv_aload_n hx hb1 dX9_said_8 rfl (lv_at hl 0 rfl) ?_
    refine lv_iload_n hx hb1 dX9_said_9 rfl (lv_at hl 2 rfl) ?_
    refine hh_kI h (va_runV (As := [.int x2]) (rest := []) X.1 (ad_X9_isItem (D := D) l J x2 σ2 _ hq) (cwV 1 X.1.2.2.2.2 gX9_said_X9_isItem rfl rfl rfl nd_X9_isItem ⟨Nat.le_of_ble_eq_true rfl, Nat.le_of_ble_eq_true rfl⟩) (hh_preV X h fm_0_0 km_0 [.int x2]) rfl rfl hl.1 rfl (lv_room (Nat.le_of_ble_eq_true rfl)) dX9_said_10 ⟨Nat.le_of_ble_eq_true rfl, Nat.le_of_ble_eq_true rfl⟩) (fun r4 σ5 H locs hq h => ?_)
    refine lv_if_ne (tgt := 18) hx hb1 dX9_said_13 (by decide) (fun c6 => ?_) (fun c6 => ?_)
    · have hq := hq.1 c6
      refine lv_aload_n hx hb1 dX9_said_18 rfl (lv_at hl 0 rfl) ?_
      refine hh_getr X h fm_0_16 in_X9_said_X9 km_0 (by decide) (List.mem_of_getElem? (i := 1) rfl) rfl dX9_said_19 ?_
      refine lv_bipush (v := (24 : Int32)) hx hb1 dX9_said_22 (by decide) ?_
      refine lv_iload_n hx hb1 dX9_said_24 rfl (lv_at hl 1 rfl) ?_
      refine lv_imul hx hb1 dX9_said_25 ?_
      refine lv_iload_n hx hb1 dX9_said_26 rfl (lv_at hl 2 rfl) ?_
      refine lv_iadd hx hb1 dX9_said_27 ?_
      obtain ⟨h7, hq⟩ := hq
      refine hh_ild X h am_13 h7 dX9_said_28 ?_
      refine lv_if_ne (tgt := 37) hx hb1 dX9_said_29 (by decide) (fun c8 => ?_) (fun c8 => ?_)
      · have hq := hq.1 c8
        refine lv_aload_n hx hb1 dX9_said_37 rfl (lv_at hl 0 rfl) ?_
        refine hh_getr X h fm_0_16 in_X9_said_X9 km_0 (by decide) (List.mem_of_getElem? (i := 1) rfl) rfl dX9_said_38 ?_
        refine lv_bipush (v := (24 : Int32)) hx hb1 dX9_said_41 (by decide) ?_
        refine lv_iload_n hx hb1 dX9_said_43 rfl (lv_at hl 1 rfl) ?_
        refine lv_imul hx hb1 dX9_said_44 ?_
        refine lv_iload_n hx hb1 dX9_said_45 rfl (lv_at hl 2 rfl) ?_
        refine lv_iadd hx hb1 dX9_said_46 ?_
        obtain ⟨h9, hq⟩ := hq
        refine hh_ild X h am_13 h9 dX9_said_47 ?_
        refine lv_iconst (v := (1 : Int32)) hx hb1 dX9_said_48 (by decide) ?_
        refine lv_isub hx hb1 dX9_said_49 ?_
        exact hh_iret X h hr hlocks hq dX9_said_50
      · have hq := hq.2 c8
        refine lv_bipush (v := (-6 : Int32)) hx hb1 dX9_said_32 (by decide) ?_
        refine lv_goto (tgt := 50) hx hb1 dX9_said_34 (by decide) ?_
        exact hh_iret X h hr hlocks hq dX9_said_50
    · have hq := hq.2 c6
      refine lv_iconst (v := (-1 : Int32)) hx hb1 dX9_said_16 (by decide) ?_
      exact hh_iret X h hr hlocks hq dX9_said_17
theorem nd_X9_set : yX9_set.cls = RX9 ∧ yX9_set.cls ≠ "java/lang/invoke/MethodHandle" ∧ yX9_set.cls ≠ "java/lang/invoke/VarHandle" ∧ (parseMethodDescriptor yX9_set.desc).map (fun d => d.parameters.length) = some 2 := by decide +kernel
abbrev rm_X9_set : Room := { frames := 1, cells := 0, slots := 0, locals := 22 }
def wp_X9_set (x1 : Int32) (x2 : Int32) (σ : hh_S) (Q : Int32 → hh_S → Prop) : Prop := (wp_X9_in x1 (0 : Int32) (5 : Int32) σ (fun (r1 : Int32) (σ2 : hh_S) => ((¬ r1 = 0 → ((x1 = 0 → ((¬ x1 = (1 : Int32) → ((¬ x1 = (2 : Int32) → (wp_X9_in x2 (1 : Int32) (100 : Int32) σ2 (fun (r7 : Int32) (σ8 : hh_S) => ((¬ r7 = 0 → (vp_in x1 6 ∧ (∀ v11 : Int32, v11 = (hh_rA σ8 14 x1) → (vp_in x1 6 ∧ ∀ σ13 : hh_S, σ13 = hh_sA σ8 14 x1 x2 → (Q v11 σ13))))) ∧ (r7 = 0 → (Q (-2 : Int32) σ8)))))) ∧ (x1 = (2 : Int32) → (wp_X9_in x2 (1 : Int32) (60 : Int32) σ2 (fun (r14 : Int32) (σ15 : hh_S) => ((¬ r14 = 0 → (vp_in x1 6 ∧ (∀ v18 : Int32, v18 = (hh_rA σ15 14 x1) → (vp_in x1 6 ∧ ∀ σ20 : hh_S, σ20 = hh_sA σ15 14 x1 x2 → (Q v18 σ20))))) ∧ (r14 = 0 → (Q (-2 : Int32) σ15)))))))) ∧ (x1 = (1 : Int32) → (wp_X9_in x2 (1 : Int32) (100000 : Int32) σ2 (fun (r21 : Int32) (σ22 : hh_S) => ((¬ r21 = 0 → (vp_in x1 6 ∧ (∀ v25 : Int32, v25 = (hh_rA σ22 14 x1) → (vp_in x1 6 ∧ ∀ σ27 : hh_S, σ27 = hh_sA σ22 14 x1 x2 → (Q v25 σ27))))) ∧ (r21 = 0 → (Q (-2 : Int32) σ22)))))))) ∧ (¬ x1 = 0 → ((¬ x1 = (2 : Int32) → ((¬ x1 = (1 : Int32) → ((¬ x1 = (2 : Int32) → (wp_X9_in x2 (0 : Int32) (100 : Int32) σ2 (fun (r31 : Int32) (σ32 : hh_S) => ((¬ r31 = 0 → (vp_in x1 6 ∧ (∀ v35 : Int32, v35 = (hh_rA σ32 14 x1) → (vp_in x1 6 ∧ ∀ σ37 : hh_S, σ37 = hh_sA σ32 14 x1 x2 → (Q v35 σ37))))) ∧ (r31 = 0 → (Q (-2 : Int32) σ32)))))) ∧ (x1 = (2 : Int32) → (wp_X9_in x2 (0 : Int32) (60 : Int32) σ2 (fun (r38 : Int32) (σ39 : hh_S) => ((¬ r38 = 0 → (vp_in x1 6 ∧ (∀ v42 : Int32, v42 = (hh_rA σ39 14 x1) → (vp_in x1 6 ∧ ∀ σ44 : hh_S, σ44 = hh_sA σ39 14 x1 x2 → (Q v42 σ44))))) ∧ (r38 = 0 → (Q (-2 : Int32) σ39)))))))) ∧ (x1 = (1 : Int32) → (wp_X9_in x2 (0 : Int32) (100000 : Int32) σ2 (fun (r45 : Int32) (σ46 : hh_S) => ((¬ r45 = 0 → (vp_in x1 6 ∧ (∀ v49 : Int32, v49 = (hh_rA σ46 14 x1) → (vp_in x1 6 ∧ ∀ σ51 : hh_S, σ51 = hh_sA σ46 14 x1 x2 → (Q v49 σ51))))) ∧ (r45 = 0 → (Q (-2 : Int32) σ46)))))))) ∧ (x1 = (2 : Int32) → ((¬ x1 = (1 : Int32) → ((¬ x1 = (2 : Int32) → (wp_X9_in x2 (1 : Int32) (100 : Int32) σ2 (fun (r54 : Int32) (σ55 : hh_S) => ((¬ r54 = 0 → (vp_in x1 6 ∧ (∀ v58 : Int32, v58 = (hh_rA σ55 14 x1) → (vp_in x1 6 ∧ ∀ σ60 : hh_S, σ60 = hh_sA σ55 14 x1 x2 → (Q v58 σ60))))) ∧ (r54 = 0 → (Q (-2 : Int32) σ55)))))) ∧ (x1 = (2 : Int32) → (wp_X9_in x2 (1 : Int32) (60 : Int32) σ2 (fun (r61 : Int32) (σ62 : hh_S) => ((¬ r61 = 0 → (vp_in x1 6 ∧ (∀ v65 : Int32, v65 = (hh_rA σ62 14 x1) → (vp_in x1 6 ∧ ∀ σ67 : hh_S, σ67 = hh_sA σ62 14 x1 x2 → (Q v65 σ67))))) ∧ (r61 = 0 → (Q (-2 : Int32) σ62)))))))) ∧ (x1 = (1 : Int32) → (wp_X9_in x2 (1 : Int32) (100000 : Int32) σ2 (fun (r68 : Int32) (σ69 : hh_S) => ((¬ r68 = 0 → (vp_in x1 6 ∧ (∀ v72 : Int32, v72 = (hh_rA σ69 14 x1) → (vp_in x1 6 ∧ ∀ σ74 : hh_S, σ74 = hh_sA σ69 14 x1 x2 → (Q v72 σ74))))) ∧ (r68 = 0 → (Q (-2 : Int32) σ69)))))))))))) ∧ (r1 = 0 → (Q (-2 : Int32) σ2)))))
theorem in_X9_set_X9 : ∀ w ∈ u_ws RX9 TX9 37, w ∈ wsX9_set := fun w h => List.mem_cons_of_mem _ (List.mem_append_right _ h)
set_option maxHeartbeats 4000000 in
set_option maxRecDepth 100000 in
theorem ad_X9_set {D : va_G} (l : Launch) {cy : Nat → ClassId} {ad : Nat → Nat} (J : hh_J hm_Y ad) (x1 : Int32) (x2 : Int32) (σ : hh_S) (Q : Int32 → hh_S → Prop) (hq : wp_X9_set x1 x2 σ Q) : Met l yX9_set wsX9_set rm_X9_set (va_Pc [.ref (ad 0), .int x1, .int x2] (hh_B D hh_cl hm_Y cy ad σ)) (va_Qi Q (hh_B D hh_cl hm_Y cy ad) (hh_A hm_Y ad)) 0 0 (hh_A hm_Y ad) := by
  refine Met.ofW (cc := cX9_set) (maxL := 6) (ret := (some .int)) (by decide) rfl ?_
  intro p e s m args below meth c s₁ B hml hv
  obtain ⟨hargs, hP0, hK0⟩ := hv
  have hr := B.returns
  have hlocks := B.notSynchronized
  have X : hh_X p m c cX9_set 6 s args wsX9_set RX9 D hh_cl hm_Y cy ad := ⟨⟨B.exec, B.bytes, hml, findClass_of_methodNamed B.named, atoms_spec (ws := wsX9_set) B.pre⟩, hK0, J⟩
  have hx := X.1.1
  have hb1 := X.1.2.1
  have h : hh_H D hh_cl hm_Y cy ad s.heap σ s.heap [] := ⟨hP0, va_S.rf⟩
  subst hargs
  refine hh_entry (vs := [.ref (ad 0), .int x1, .int x2]) (Nat.le_of_ble_eq_true rfl) (fun ls hl => ?_)
  have hl : lv_has ls 6 [(0, .ref (ad 0)), (1, .int x1), (2, .int x2)] := hl
  have hq : wp_X9_set x1 x2 σ Q := hq
  unfold wp_X9_set at hq
  refine lv_iload_n hx hb1 dX9_set_0 rfl (lv_at hl 1 rfl) ?_
  refine lv_iconst (v := (0 : Int32)) hx hb1 dX9_set_1 (by decide) ?_
  refine lv_iconst (v := (5 : Int32)) hx hb1 dX9_set_2 (by decide) ?_
  refine hh_kI h (va_runS (As := [.int x1, .int (0 : Int32), .int (5 : Int32)]) (rest := []) X.1 (ad_X9_in (D := D) l J x1 (0 : Int32) (5 : Int32) σ _ hq) (va_cwS 3 X.1.2.2.2.2 gX9_set_X9_in rfl rfl rfl nd_X9_in ⟨Nat.le_of_ble_eq_true rfl, Nat.le_of_ble_eq_true rfl⟩) (hh_preS X h [.int x1, .int (0 : Int32), .int (5 : Int32)]) rfl rfl hl.1 rfl (lv_room (Nat.le_of_ble_eq_true rfl)) dX9_set_3 ⟨Nat.le_of_ble_eq_true rfl, Nat.le_of_ble_eq_true rfl⟩) (fun r1 σ2 H locs hq h => ?_)
  refine lv_if_ne (tgt := 12) hx hb1 dX9_set_6 (by decide) (fun c3 => ?_) (fun c3 => ?_)
  · have hq := hq.1 c3
    refine lv_iload_n hx hb1 dX9_set_12 rfl (lv_at hl 1 rfl) ?_
    refine lv_if_eq (tgt := 21) hx hb1 dX9_set_13 (by decide) (fun c4 => ?_) (fun c4 => ?_)
    · have hq := hq.1 c4
      refine lv_iconst (v := (1 : Int32)) hx hb1 dX9_set_21 (by decide) ?_
      refine lv_goto (tgt := 26) hx hb1 dX9_set_22 (by decide) ?_
      refine lv_istore_n (lv' := [(3, .int (1 : Int32)), (0, .ref (ad 0)), (1, .int x1), (2, .int x2)]) hx hb1 dX9_set_26 rfl hl (by decide) rfl (fun ls hl => ?_)
      refine lv_iload_n hx hb1 dX9_set_27 rfl (lv_at hl 2 rfl) ?_
      refine lv_iconst (v := (1 : Int32)) hx hb1 dX9_set_28 (by decide) ?_
      refine lv_icmp_ne (tgt := 37) hx hb1 dX9_set_29 (by decide) (fun c5 => ?_) (fun c5 => ?_)
      · have hq := hq.1 c5
        refine lv_iload_n hx hb1 dX9_set_37 rfl (lv_at hl 2 rfl) ?_
        refine lv_iconst (v := (2 : Int32)) hx hb1 dX9_set_38 (by decide) ?_
        refine lv_icmp_ne (tgt := 47) hx hb1 dX9_set_39 (by decide) (fun c6 => ?_) (fun c6 => ?_)
        · have hq := hq.1 c6
          refine lv_bipush (v := (100 : Int32)) hx hb1 dX9_set_47 (by decide) ?_
          refine lv_istore (lv' := [(4, .int (100 : Int32)), (3, .int (1 : Int32)), (0, .ref (ad 0)), (1, .int x1), (2, .int x2)]) hx hb1 dX9_set_49 hl (by decide) rfl (fun ls hl => ?_)
          refine lv_iload_n hx hb1 dX9_set_51 rfl (lv_at hl 4 rfl) ?_
          refine lv_iload_n hx hb1 dX9_set_52 rfl (lv_at hl 1 rfl) ?_
          refine lv_iload hx hb1 dX9_set_53 (lv_at hl 0 rfl) ?_
          refine hh_kI h (va_runS (As := [.int x2, .int (1 : Int32), .int (100 : Int32)]) (rest := []) X.1 (ad_X9_in (D := D) l J x2 (1 : Int32) (100 : Int32) σ2 _ hq) (va_cwS 3 X.1.2.2.2.2 gX9_set_X9_in rfl rfl rfl nd_X9_in ⟨Nat.le_of_ble_eq_true rfl, Nat.le_of_ble_eq_true rfl⟩) (hh_preS X h [.int x2, .int (1 : Int32), .int (100 : Int32)]) rfl rfl hl.1 rfl (lv_room (Nat.le_of_ble_eq_true rfl)) dX9_set_55 ⟨Nat.le_of_ble_eq_true rfl, Nat.le_of_ble_eq_true rfl⟩) (fun r7 σ8 H locs hq h => ?_)
          refine lv_if_ne (tgt := 64) hx hb1 dX9_set_58 (by decide) (fun c9 => ?_) (fun c9 => ?_)
          · have hq := hq.1 c9
            refine lv_aload_n hx hb1 dX9_set_64 rfl (lv_at hl 2 rfl) ?_
            refine hh_getr X h fm_0_17 in_X9_set_X9 km_0 (by decide) (List.mem_of_getElem? (i := 2) rfl) rfl dX9_set_65 ?_
            refine lv_iload_n hx hb1 dX9_set_68 rfl (lv_at hl 3 rfl) ?_
            obtain ⟨h10, hq⟩ := hq
            refine hh_ild X h am_14 h10 dX9_set_69 ?_
            refine lv_topi (fun v11 ev11 => ?_)
            have hq := hq v11 ev11
            refine lv_istore (lv' := [(5, .int v11), (4, .int (100 : Int32)), (3, .int (1 : Int32)), (0, .ref (ad 0)), (1, .int x1), (2, .int x2)]) hx hb1 dX9_set_70 hl (by decide) rfl (fun ls hl => ?_)
            refine lv_aload_n hx hb1 dX9_set_72 rfl (lv_at hl 3 rfl) ?_
            refine hh_getr X h fm_0_17 in_X9_set_X9 km_0 (by decide) (List.mem_of_getElem? (i := 2) rfl) rfl dX9_set_73 ?_
            refine lv_iload_n hx hb1 dX9_set_76 rfl (lv_at hl 4 rfl) ?_
            refine lv_iload_n hx hb1 dX9_set_77 rfl (lv_at hl 5 rfl) ?_
            obtain ⟨h12, hq⟩ := hq
            refine hh_ist X h am_14 h12 dX9_set_78 (fun σ13 H locs eσ13 h => ?_)
            have hq := hq σ13 eσ13
            refine lv_iload hx hb1 dX9_set_79 (lv_at hl 0 rfl) ?_
            exact hh_iret X h hr hlocks hq dX9_set_81
          · have hq := hq.2 c9
            refine lv_bipush (v := (-2 : Int32)) hx hb1 dX9_set_61 (by decide) ?_
            exact hh_iret X h hr hlocks hq dX9_set_63
        · have hq := hq.2 c6
          refine lv_bipush (v := (60 : Int32)) hx hb1 dX9_set_42 (by decide) ?_
          refine lv_goto (tgt := 49) hx hb1 dX9_set_44 (by decide) ?_
          refine lv_istore (lv' := [(4, .int (60 : Int32)), (3, .int (1 : Int32)), (0, .ref (ad 0)), (1, .int x1), (2, .int x2)]) hx hb1 dX9_set_49 hl (by decide) rfl (fun ls hl => ?_)
          refine lv_iload_n hx hb1 dX9_set_51 rfl (lv_at hl 4 rfl) ?_
          refine lv_iload_n hx hb1 dX9_set_52 rfl (lv_at hl 1 rfl) ?_
          refine lv_iload hx hb1 dX9_set_53 (lv_at hl 0 rfl) ?_
          refine hh_kI h (va_runS (As := [.int x2, .int (1 : Int32), .int (60 : Int32)]) (rest := []) X.1 (ad_X9_in (D := D) l J x2 (1 : Int32) (60 : Int32) σ2 _ hq) (va_cwS 3 X.1.2.2.2.2 gX9_set_X9_in rfl rfl rfl nd_X9_in ⟨Nat.le_of_ble_eq_true rfl, Nat.le_of_ble_eq_true rfl⟩) (hh_preS X h [.int x2, .int (1 : Int32), .int (60 : Int32)]) rfl rfl hl.1 rfl (lv_room (Nat.le_of_ble_eq_true rfl)) dX9_set_55 ⟨Nat.le_of_ble_eq_true rfl, Nat.le_of_ble_eq_true rfl⟩) (fun r14 σ15 H locs hq h => ?_)
          refine lv_if_ne (tgt := 64) hx hb1 dX9_set_58 (by decide) (fun c16 => ?_) (fun c16 => ?_)
          · have hq := hq.1 c16
            refine lv_aload_n hx hb1 dX9_set_64 rfl (lv_at hl 2 rfl) ?_
            refine hh_getr X h fm_0_17 in_X9_set_X9 km_0 (by decide) (List.mem_of_getElem? (i := 2) rfl) rfl dX9_set_65 ?_
            refine lv_iload_n hx hb1 dX9_set_68 rfl (lv_at hl 3 rfl) ?_
            obtain ⟨h17, hq⟩ := hq
            refine hh_ild X h am_14 h17 dX9_set_69 ?_
            refine lv_topi (fun v18 ev18 => ?_)
            have hq := hq v18 ev18
            refine lv_istore (lv' := [(5, .int v18), (4, .int (60 : Int32)), (3, .int (1 : Int32)), (0, .ref (ad 0)), (1, .int x1), (2, .int x2)]) hx hb1 dX9_set_70 hl (by decide) rfl (fun ls hl => ?_)
            refine lv_aload_n hx hb1 dX9_set_72 rfl (lv_at hl 3 rfl) ?_
            refine hh_getr X h fm_0_17 in_X9_set_X9 km_0 (by decide) (List.mem_of_getElem? (i := 2) rfl) rfl dX9_set_73 ?_
            refine lv_iload_n hx hb1 dX9_set_76 rfl (lv_at hl 4 rfl) ?_
            refine lv_iload_n hx hb1 dX9_set_77 rfl (lv_at hl 5 rfl) ?_
            obtain ⟨h19, hq⟩ := hq
            refine hh_ist X h am_14 h19 dX9_set_78 (fun σ20 H locs eσ20 h => ?_)
            have hq := hq σ20 eσ20
            refine lv_iload hx hb1 dX9_set_79 (lv_at hl 0 rfl) ?_
            exact hh_iret X h hr hlocks hq dX9_set_81
          · have hq := hq.2 c16
            refine lv_bipush (v := (-2 : Int32)) hx hb1 dX9_set_61 (by decide) ?_
            exact hh_iret X h hr hlocks hq dX9_set_63
      · have hq := hq.2 c5
        refine lv_ldc (v := (100000 : Int32)) hx hb1 X.1.2.2.2.1 (X.1.2.2.2.2 _ (List.mem_of_getElem? (i := 1) rfl)) dX9_set_32 ?_
        refine lv_goto (tgt := 49) hx hb1 dX9_set_34 (by decide) ?_
        refine lv_istore (lv' := [(4, .int (100000 : Int32)), (3, .int (1 : Int32)), (0, .ref (ad 0)), (1, .int x1), (2, .int x2)]) hx hb1 dX9_set_49 hl (by decide) rfl (fun ls hl => ?_)
        refine lv_iload_n hx hb1 dX9_set_51 rfl (lv_at hl 4 rfl) ?_
        refine lv_iload_n hx hb1 dX9_set_52 rfl (lv_at hl 1 rfl) ?_
        refine lv_iload hx hb1 dX9_set_53 (lv_at hl 0 rfl) ?_
        refine hh_kI h (va_runS (As := [.int x2, .int (1 : Int32), .int (100000 : Int32)]) (rest := []) X.1 (ad_X9_in (D := D) l J x2 (1 : Int32) (100000 : Int32) σ2 _ hq) (va_cwS 3 X.1.2.2.2.2 gX9_set_X9_in rfl rfl rfl nd_X9_in ⟨Nat.le_of_ble_eq_true rfl, Nat.le_of_ble_eq_true rfl⟩) (hh_preS X h [.int x2, .int (1 : Int32), .int (100000 : Int32)]) rfl rfl hl.1 rfl (lv_room (Nat.le_of_ble_eq_true rfl)) dX9_set_55 ⟨Nat.le_of_ble_eq_true rfl, Nat.le_of_ble_eq_true rfl⟩) (fun r21 σ22 H locs hq h => ?_)
        refine lv_if_ne (tgt := 64) hx hb1 dX9_set_58 (by decide) (fun c23 => ?_) (fun c23 => ?_)
        · have hq := hq.1 c23
          refine lv_aload_n hx hb1 dX9_set_64 rfl (lv_at hl 2 rfl) ?_
          refine hh_getr X h fm_0_17 in_X9_set_X9 km_0 (by decide) (List.mem_of_getElem? (i := 2) rfl) rfl dX9_set_65 ?_
          refine lv_iload_n hx hb1 dX9_set_68 rfl (lv_at hl 3 rfl) ?_
          obtain ⟨h24, hq⟩ := hq
          refine hh_ild X h am_14 h24 dX9_set_69 ?_
          refine lv_topi (fun v25 ev25 => ?_)
          have hq := hq v25 ev25
          refine lv_istore (lv' := [(5, .int v25), (4, .int (100000 : Int32)), (3, .int (1 : Int32)), (0, .ref (ad 0)), (1, .int x1), (2, .int x2)]) hx hb1 dX9_set_70 hl (by decide) rfl (fun ls hl => ?_)
          refine lv_aload_n hx hb1 dX9_set_72 rfl (lv_at hl 3 rfl) ?_
          refine hh_getr X h fm_0_17 in_X9_set_X9 km_0 (by decide) (List.mem_of_getElem? (i := 2) rfl) rfl dX9_set_73 ?_
          refine lv_iload_n hx hb1 dX9_set_76 rfl (lv_at hl 4 rfl) ?_
          refine lv_iload_n hx hb1 dX9_set_77 rfl (lv_at hl 5 rfl) ?_
          obtain ⟨h26, hq⟩ := hq
          refine hh_ist X h am_14 h26 dX9_set_78 (fun σ27 H locs eσ27 h => ?_)
          have hq := hq σ27 eσ27
          refine lv_iload hx hb1 dX9_set_79 (lv_at hl 0 rfl) ?_
          exact hh_iret X h hr hlocks hq dX9_set_81
        · have hq := hq.2 c23
          refine lv_bipush (v := (-2 : Int32)) hx hb1 dX9_set_61 (by decide) ?_
          exact hh_iret X h hr hlocks hq dX9_set_63
    · have hq := hq.2 c4
      refine lv_iload_n hx hb1 dX9_set_16 rfl (lv_at hl 1 rfl) ?_
      refine lv_iconst (v := (2 : Int32)) hx hb1 dX9_set_17 (by decide) ?_
      refine lv_icmp_ne (tgt := 25) hx hb1 dX9_set_18 (by decide) (fun c28 => ?_) (fun c28 => ?_)
      · have hq := hq.1 c28
        refine lv_iconst (v := (0 : Int32)) hx hb1 dX9_set_25 (by decide) ?_
        refine lv_istore_n (lv' := [(3, .int (0 : Int32)), (0, .ref (ad 0)), (1, .int x1), (2, .int x2)]) hx hb1 dX9_set_26 rfl hl (by decide) rfl (fun ls hl => ?_)
        refine lv_iload_n hx hb1 dX9_set_27 rfl (lv_at hl 2 rfl) ?_
        refine lv_iconst (v := (1 : Int32)) hx hb1 dX9_set_28 (by decide) ?_
        refine lv_icmp_ne (tgt := 37) hx hb1 dX9_set_29 (by decide) (fun c29 => ?_) (fun c29 => ?_)
        · have hq := hq.1 c29
          refine lv_iload_n hx hb1 dX9_set_37 rfl (lv_at hl 2 rfl) ?_
          refine lv_iconst (v := (2 : Int32)) hx hb1 dX9_set_38 (by decide) ?_
          refine lv_icmp_ne (tgt := 47) hx hb1 dX9_set_39 (by decide) (fun c30 => ?_) (fun c30 => ?_)
          · have hq := hq.1 c30
            refine lv_bipush (v := (100 : Int32)) hx hb1 dX9_set_47 (by decide) ?_
            refine lv_istore (lv' := [(4, .int (100 : Int32)), (3, .int (0 : Int32)), (0, .ref (ad 0)), (1, .int x1), (2, .int x2)]) hx hb1 dX9_set_49 hl (by decide) rfl (fun ls hl => ?_)
            refine lv_iload_n hx hb1 dX9_set_51 rfl (lv_at hl 4 rfl) ?_
            refine lv_iload_n hx hb1 dX9_set_52 rfl (lv_at hl 1 rfl) ?_
            refine lv_iload hx hb1 dX9_set_53 (lv_at hl 0 rfl) ?_
            refine hh_kI h (va_runS (As := [.int x2, .int (0 : Int32), .int (100 : Int32)]) (rest := []) X.1 (ad_X9_in (D := D) l J x2 (0 : Int32) (100 : Int32) σ2 _ hq) (va_cwS 3 X.1.2.2.2.2 gX9_set_X9_in rfl rfl rfl nd_X9_in ⟨Nat.le_of_ble_eq_true rfl, Nat.le_of_ble_eq_true rfl⟩) (hh_preS X h [.int x2, .int (0 : Int32), .int (100 : Int32)]) rfl rfl hl.1 rfl (lv_room (Nat.le_of_ble_eq_true rfl)) dX9_set_55 ⟨Nat.le_of_ble_eq_true rfl, Nat.le_of_ble_eq_true rfl⟩) (fun r31 σ32 H locs hq h => ?_)
            refine lv_if_ne (tgt := 64) hx hb1 dX9_set_58 (by decide) (fun c33 => ?_) (fun c33 => ?_)
            · have hq := hq.1 c33
              refine lv_aload_n hx hb1 dX9_set_64 rfl (lv_at hl 2 rfl) ?_
              refine hh_getr X h fm_0_17 in_X9_set_X9 km_0 (by decide) (List.mem_of_getElem? (i := 2) rfl) rfl dX9_set_65 ?_
              refine lv_iload_n hx hb1 dX9_set_68 rfl (lv_at hl 3 rfl) ?_
              obtain ⟨h34, hq⟩ := hq
              refine hh_ild X h am_14 h34 dX9_set_69 ?_
              refine lv_topi (fun v35 ev35 => ?_)
              have hq := hq v35 ev35
              refine lv_istore (lv' := [(5, .int v35), (4, .int (100 : Int32)), (3, .int (0 : Int32)), (0, .ref (ad 0)), (1, .int x1), (2, .int x2)]) hx hb1 dX9_set_70 hl (by decide) rfl (fun ls hl => ?_)
              refine lv_aload_n hx hb1 dX9_set_72 rfl (lv_at hl 3 rfl) ?_
              refine hh_getr X h fm_0_17 in_X9_set_X9 km_0 (by decide) (List.mem_of_getElem? (i := 2) rfl) rfl dX9_set_73 ?_
              refine lv_iload_n hx hb1 dX9_set_76 rfl (lv_at hl 4 rfl) ?_
              refine lv_iload_n hx hb1 dX9_set_77 rfl (lv_at hl 5 rfl) ?_
              obtain ⟨h36, hq⟩ := hq
              refine hh_ist X h am_14 h36 dX9_set_78 (fun σ37 H locs eσ37 h => ?_)
              have hq := hq σ37 eσ37
              refine lv_iload hx hb1 dX9_set_79 (lv_at hl 0 rfl) ?_
              exact hh_iret X h hr hlocks hq dX9_set_81
            · have hq := hq.2 c33
              refine lv_bipush (v := (-2 : Int32)) hx hb1 dX9_set_61 (by decide) ?_
              exact hh_iret X h hr hlocks hq dX9_set_63
          · have hq := hq.2 c30
            refine lv_bipush (v := (60 : Int32)) hx hb1 dX9_set_42 (by decide) ?_
            refine lv_goto (tgt := 49) hx hb1 dX9_set_44 (by decide) ?_
            refine lv_istore (lv' := [(4, .int (60 : Int32)), (3, .int (0 : Int32)), (0, .ref (ad 0)), (1, .int x1), (2, .int x2)]) hx hb1 dX9_set_49 hl (by decide) rfl (fun ls hl => ?_)
            refine lv_iload_n hx hb1 dX9_set_51 rfl (lv_at hl 4 rfl) ?_
            refine lv_iload_n hx hb1 dX9_set_52 rfl (lv_at hl 1 rfl) ?_
            refine lv_iload hx hb1 dX9_set_53 (lv_at hl 0 rfl) ?_
            refine hh_kI h (va_runS (As := [.int x2, .int (0 : Int32), .int (60 : Int32)]) (rest := []) X.1 (ad_X9_in (D := D) l J x2 (0 : Int32) (60 : Int32) σ2 _ hq) (va_cwS 3 X.1.2.2.2.2 gX9_set_X9_in rfl rfl rfl nd_X9_in ⟨Nat.le_of_ble_eq_true rfl, Nat.le_of_ble_eq_true rfl⟩) (hh_preS X h [.int x2, .int (0 : Int32), .int (60 : Int32)]) rfl rfl hl.1 rfl (lv_room (Nat.le_of_ble_eq_true rfl)) dX9_set_55 ⟨Nat.le_of_ble_eq_true rfl, Nat.le_of_ble_eq_true rfl⟩) (fun r38 σ39 H locs hq h => ?_)
            refine lv_if_ne (tgt := 64) hx hb1 dX9_set_58 (by decide) (fun c40 => ?_) (fun c40 => ?_)
            · have hq := hq.1 c40
              refine lv_aload_n hx hb1 dX9_set_64 rfl (lv_at hl 2 rfl) ?_
              refine hh_getr X h fm_0_17 in_X9_set_X9 km_0 (by decide) (List.mem_of_getElem? (i := 2) rfl) rfl dX9_set_65 ?_
              refine lv_iload_n hx hb1 dX9_set_68 rfl (lv_at hl 3 rfl) ?_
              obtain ⟨h41, hq⟩ := hq
              refine hh_ild X h am_14 h41 dX9_set_69 ?_
              refine lv_topi (fun v42 ev42 => ?_)
              have hq := hq v42 ev42
              refine lv_istore (lv' := [(5, .int v42), (4, .int (60 : Int32)), (3, .int (0 : Int32)), (0, .ref (ad 0)), (1, .int x1), (2, .int x2)]) hx hb1 dX9_set_70 hl (by decide) rfl (fun ls hl => ?_)
              refine lv_aload_n hx hb1 dX9_set_72 rfl (lv_at hl 3 rfl) ?_
              refine hh_getr X h fm_0_17 in_X9_set_X9 km_0 (by decide) (List.mem_of_getElem? (i := 2) rfl) rfl dX9_set_73 ?_
              refine lv_iload_n hx hb1 dX9_set_76 rfl (lv_at hl 4 rfl) ?_
              refine lv_iload_n hx hb1 dX9_set_77 rfl (lv_at hl 5 rfl) ?_
              obtain ⟨h43, hq⟩ := hq
              refine hh_ist X h am_14 h43 dX9_set_78 (fun σ44 H locs eσ44 h => ?_)
              have hq := hq σ44 eσ44
              refine lv_iload hx hb1 dX9_set_79 (lv_at hl 0 rfl) ?_
              exact hh_iret X h hr hlocks hq dX9_set_81
            · have hq := hq.2 c40
              refine lv_bipush (v := (-2 : Int32)) hx hb1 dX9_set_61 (by decide) ?_
              exact hh_iret X h hr hlocks hq dX9_set_63
        · have hq := hq.2 c29
          refine lv_ldc (v := (100000 : Int32)) hx hb1 X.1.2.2.2.1 (X.1.2.2.2.2 _ (List.mem_of_getElem? (i := 1) rfl)) dX9_set_32 ?_
          refine lv_goto (tgt := 49) hx hb1 dX9_set_34 (by decide) ?_
          refine lv_istore (lv' := [(4, .int (100000 : Int32)), (3, .int (0 : Int32)), (0, .ref (ad 0)), (1, .int x1), (2, .int x2)]) hx hb1 dX9_set_49 hl (by decide) rfl (fun ls hl => ?_)
          refine lv_iload_n hx hb1 dX9_set_51 rfl (lv_at hl 4 rfl) ?_
          refine lv_iload_n hx hb1 dX9_set_52 rfl (lv_at hl 1 rfl) ?_
          refine lv_iload hx hb1 dX9_set_53 (lv_at hl 0 rfl) ?_
          refine hh_kI h (va_runS (As := [.int x2, .int (0 : Int32), .int (100000 : Int32)]) (rest := []) X.1 (ad_X9_in (D := D) l J x2 (0 : Int32) (100000 : Int32) σ2 _ hq) (va_cwS 3 X.1.2.2.2.2 gX9_set_X9_in rfl rfl rfl nd_X9_in ⟨Nat.le_of_ble_eq_true rfl, Nat.le_of_ble_eq_true rfl⟩) (hh_preS X h [.int x2, .int (0 : Int32), .int (100000 : Int32)]) rfl rfl hl.1 rfl (lv_room (Nat.le_of_ble_eq_true rfl)) dX9_set_55 ⟨Nat.le_of_ble_eq_true rfl, Nat.le_of_ble_eq_true rfl⟩) (fun r45 σ46 H locs hq h => ?_)
          refine lv_if_ne (tgt := 64) hx hb1 dX9_set_58 (by decide) (fun c47 => ?_) (fun c47 => ?_)
          · have hq := hq.1 c47
            refine lv_aload_n hx hb1 dX9_set_64 rfl (lv_at hl 2 rfl) ?_
            refine hh_getr X h fm_0_17 in_X9_set_X9 km_0 (by decide) (List.mem_of_getElem? (i := 2) rfl) rfl dX9_set_65 ?_
            refine lv_iload_n hx hb1 dX9_set_68 rfl (lv_at hl 3 rfl) ?_
            obtain ⟨h48, hq⟩ := hq
            refine hh_ild X h am_14 h48 dX9_set_69 ?_
            refine lv_topi (fun v49 ev49 => ?_)
            have hq := hq v49 ev49
            refine lv_istore (lv' := [(5, .int v49), (4, .int (100000 : Int32)), (3, .int (0 : Int32)), (0, .ref (ad 0)), (1, .int x1), (2, .int x2)]) hx hb1 dX9_set_70 hl (by decide) rfl (fun ls hl => ?_)
            refine lv_aload_n hx hb1 dX9_set_72 rfl (lv_at hl 3 rfl) ?_
            refine hh_getr X h fm_0_17 in_X9_set_X9 km_0 (by decide) (List.mem_of_getElem? (i := 2) rfl) rfl dX9_set_73 ?_
            refine lv_iload_n hx hb1 dX9_set_76 rfl (lv_at hl 4 rfl) ?_
            refine lv_iload_n hx hb1 dX9_set_77 rfl (lv_at hl 5 rfl) ?_
            obtain ⟨h50, hq⟩ := hq
            refine hh_ist X h am_14 h50 dX9_set_78 (fun σ51 H locs eσ51 h => ?_)
            have hq := hq σ51 eσ51
            refine lv_iload hx hb1 dX9_set_79 (lv_at hl 0 rfl) ?_
            exact hh_iret X h hr hlocks hq dX9_set_81
          · have hq := hq.2 c47
            refine lv_bipush (v := (-2 : Int32)) hx hb1 dX9_set_61 (by decide) ?_
            exact hh_iret X h hr hlocks hq dX9_set_63
      · have hq := hq.2 c28
        refine lv_iconst (v := (1 : Int32)) hx hb1 dX9_set_21 (by decide) ?_
        refine lv_goto (tgt := 26) hx hb1 dX9_set_22 (by decide) ?_
        refine lv_istore_n (lv' := [(3, .int (1 : Int32)), (0, .ref (ad 0)), (1, .int x1), (2, .int x2)]) hx hb1 dX9_set_26 rfl hl (by decide) rfl (fun ls hl => ?_)
        refine lv_iload_n hx hb1 dX9_set_27 rfl (lv_at hl 2 rfl) ?_
        refine lv_iconst (v := (1 : Int32)) hx hb1 dX9_set_28 (by decide) ?_
        refine lv_icmp_ne (tgt := 37) hx hb1 dX9_set_29 (by decide) (fun c52 => ?_) (fun c52 => ?_)
        · have hq := hq.1 c52
          refine lv_iload_n hx hb1 dX9_set_37 rfl (lv_at hl 2 rfl) ?_
          refine lv_iconst (v := (2 : Int32)) hx hb1 dX9_set_38 (by decide) ?_
          refine lv_icmp_ne (tgt := 47) hx hb1 dX9_set_39 (by decide) (fun c53 => ?_) (fun c53 => ?_)
          · have hq := hq.1 c53
            refine lv_bipush (v := (100 : Int32)) hx hb1 dX9_set_47 (by decide) ?_
            refine lv_istore (lv' := [(4, .int (100 : Int32)), (3, .int (1 : Int32)), (0, .ref (ad 0)), (1, .int x1), (2, .int x2)]) hx hb1 dX9_set_49 hl (by decide) rfl (fun ls hl => ?_)
            refine lv_iload_n hx hb1 dX9_set_51 rfl (lv_at hl 4 rfl) ?_
            refine lv_iload_n hx hb1 dX9_set_52 rfl (lv_at hl 1 rfl) ?_
            refine lv_iload hx hb1 dX9_set_53 (lv_at hl 0 rfl) ?_
            refine hh_kI h (va_runS (As := [.int x2, .int (1 : Int32), .int (100 : Int32)]) (rest := []) X.1 (ad_X9_in (D := D) l J x2 (1 : Int32) (100 : Int32) σ2 _ hq) (va_cwS 3 X.1.2.2.2.2 gX9_set_X9_in rfl rfl rfl nd_X9_in ⟨Nat.le_of_ble_eq_true rfl, Nat.le_of_ble_eq_true rfl⟩) (hh_preS X h [.int x2, .int (1 : Int32), .int (100 : Int32)]) rfl rfl hl.1 rfl (lv_room (Nat.le_of_ble_eq_true rfl)) dX9_set_55 ⟨Nat.le_of_ble_eq_true rfl, Nat.le_of_ble_eq_true rfl⟩) (fun r54 σ55 H locs hq h => ?_)
            refine lv_if_ne (tgt := 64) hx hb1 dX9_set_58 (by decide) (fun c56 => ?_) (fun c56 => ?_)
            · have hq := hq.1 c56
              refine lv_aload_n hx hb1 dX9_set_64 rfl (lv_at hl 2 rfl) ?_
              refine hh_getr X h fm_0_17 in_X9_set_X9 km_0 (by decide) (List.mem_of_getElem? (i := 2) rfl) rfl dX9_set_65 ?_
              refine lv_iload_n hx hb1 dX9_set_68 rfl (lv_at hl 3 rfl) ?_
              obtain ⟨h57, hq⟩ := hq
              refine hh_ild X h am_14 h57 dX9_set_69 ?_
              refine lv_topi (fun v58 ev58 => ?_)
              have hq := hq v58 ev58
              refine lv_istore (lv' := [(5, .int v58), (4, .int (100 : Int32)), (3, .int (1 : Int32)), (0, .ref (ad 0)), (1, .int x1), (2, .int x2)]) hx hb1 dX9_set_70 hl (by decide) rfl (fun ls hl => ?_)
              refine lv_aload_n hx hb1 dX9_set_72 rfl (lv_at hl 3 rfl) ?_
              refine hh_getr X h fm_0_17 in_X9_set_X9 km_0 (by decide) (List.mem_of_getElem? (i := 2) rfl) rfl dX9_set_73 ?_
              refine lv_iload_n hx hb1 dX9_set_76 rfl (lv_at hl 4 rfl) ?_
              refine lv_iload_n hx hb1 dX9_set_77 rfl (lv_at hl 5 rfl) ?_
              obtain ⟨h59, hq⟩ := hq
              refine hh_ist X h am_14 h59 dX9_set_78 (fun σ60 H locs eσ60 h => ?_)
              have hq := hq σ60 eσ60
              refine lv_iload hx hb1 dX9_set_79 (lv_at hl 0 rfl) ?_
              exact hh_iret X h hr hlocks hq dX9_set_81
            · have hq := hq.2 c56
              refine lv_bipush (v := (-2 : Int32)) hx hb1 dX9_set_61 (by decide) ?_
              exact hh_iret X h hr hlocks hq dX9_set_63
          · have hq := hq.2 c53
            refine lv_bipush (v := (60 : Int32)) hx hb1 dX9_set_42 (by decide) ?_
            refine lv_goto (tgt := 49) hx hb1 dX9_set_44 (by decide) ?_
            refine lv_istore (lv' := [(4, .int (60 : Int32)), (3, .int (1 : Int32)), (0, .ref (ad 0)), (1, .int x1), (2, .int x2)]) hx hb1 dX9_set_49 hl (by decide) rfl (fun ls hl => ?_)
            refine lv_iload_n hx hb1 dX9_set_51 rfl (lv_at hl 4 rfl) ?_
            refine lv_iload_n hx hb1 dX9_set_52 rfl (lv_at hl 1 rfl) ?_
            refine lv_iload hx hb1 dX9_set_53 (lv_at hl 0 rfl) ?_
            refine hh_kI h (va_runS (As := [.int x2, .int (1 : Int32), .int (60 : Int32)]) (rest := []) X.1 (ad_X9_in (D := D) l J x2 (1 : Int32) (60 : Int32) σ2 _ hq) (va_cwS 3 X.1.2.2.2.2 gX9_set_X9_in rfl rfl rfl nd_X9_in ⟨Nat.le_of_ble_eq_true rfl, Nat.le_of_ble_eq_true rfl⟩) (hh_preS X h [.int x2, .int (1 : Int32), .int (60 : Int32)]) rfl rfl hl.1 rfl (lv_room (Nat.le_of_ble_eq_true rfl)) dX9_set_55 ⟨Nat.le_of_ble_eq_true rfl, Nat.le_of_ble_eq_true rfl⟩) (fun r61 σ62 H locs hq h => ?_)
            refine lv_if_ne (tgt := 64) hx hb1 dX9_set_58 (by decide) (fun c63 => ?_) (fun c63 => ?_)
            · have hq := hq.1 c63
              refine lv_aload_n hx hb1 dX9_set_64 rfl (lv_at hl 2 rfl) ?_
              refine hh_getr X h fm_0_17 in_X9_set_X9 km_0 (by decide) (List.mem_of_getElem? (i := 2) rfl) rfl dX9_set_65 ?_
              refine lv_iload_n hx hb1 dX9_set_68 rfl (lv_at hl 3 rfl) ?_
              obtain ⟨h64, hq⟩ := hq
              refine hh_ild X h am_14 h64 dX9_set_69 ?_
              refine lv_topi (fun v65 ev65 => ?_)
              have hq := hq v65 ev65
              refine lv_istore (lv' := [(5, .int v65), (4, .int (60 : Int32)), (3, .int (1 : Int32)), (0, .ref (ad 0)), (1, .int x1), (2, .int x2)]) hx hb1 dX9_set_70 hl (by decide) rfl (fun ls hl => ?_)
              refine lv_aload_n hx hb1 dX9_set_72 rfl (lv_at hl 3 rfl) ?_
              refine hh_getr X h fm_0_17 in_X9_set_X9 km_0 (by decide) (List.mem_of_getElem? (i := 2) rfl) rfl dX9_set_73 ?_
              refine lv_iload_n hx hb1 dX9_set_76 rfl (lv_at hl 4 rfl) ?_
              refine lv_iload_n hx hb1 dX9_set_77 rfl (lv_at hl 5 rfl) ?_
              obtain ⟨h66, hq⟩ := hq
              refine hh_ist X h am_14 h66 dX9_set_78 (fun σ67 H locs eσ67 h => ?_)
              have hq := hq σ67 eσ67
              refine lv_iload hx hb1 dX9_set_79 (lv_at hl 0 rfl) ?_
              exact hh_iret X h hr hlocks hq dX9_set_81
            · have hq := hq.2 c63
              refine lv_bipush (v := (-2 : Int32)) hx hb1 dX9_set_61 (by decide) ?_
              exact hh_iret X h hr hlocks hq dX9_set_63
        · have hq := hq.2 c52
          refine lv_ldc (v := (100000 : Int32)) hx hb1 X.1.2.2.2.1 (X.1.2.2.2.2 _ (List.mem_of_getElem? (i := 1) rfl)) dX9_set_32 ?_
          refine lv_goto (tgt := 49) hx hb1 dX9_set_34 (by decide) ?_
          refine lv_istore (lv' := [(4, .int (100000 : Int32)), (3, .int (1 : Int32)), (0, .ref (ad 0)), (1, .int x1), (2, .int x2)]) hx hb1 dX9_set_49 hl (by decide) rfl (fun ls hl => ?_)
          refine lv_iload_n hx hb1 dX9_set_51 rfl (lv_at hl 4 rfl) ?_
          refine lv_iload_n hx hb1 dX9_set_52 rfl (lv_at hl 1 rfl) ?_
          refine lv_iload hx hb1 dX9_set_53 (lv_at hl 0 rfl) ?_
          refine hh_kI h (va_runS (As := [.int x2, .int (1 : Int32), .int (100000 : Int32)]) (rest := []) X.1 (ad_X9_in (D := D) l J x2 (1 : Int32) (100000 : Int32) σ2 _ hq) (va_cwS 3 X.1.2.2.2.2 gX9_set_X9_in rfl rfl rfl nd_X9_in ⟨Nat.le_of_ble_eq_true rfl, Nat.le_of_ble_eq_true rfl⟩) (hh_preS X h [.int x2, .int (1 : Int32), .int (100000 : Int32)]) rfl rfl hl.1 rfl (lv_room (Nat.le_of_ble_eq_true rfl)) dX9_set_55 ⟨Nat.le_of_ble_eq_true rfl, Nat.le_of_ble_eq_true rfl⟩) (fun r68 σ69 H locs hq h => ?_)
          refine lv_if_ne (tgt := 64) hx hb1 dX9_set_58 (by decide) (fun c70 => ?_) (fun c70 => ?_)
          · have hq := hq.1 c70
            refine lv_aload_n hx hb1 dX9_set_64 rfl (lv_at hl 2 rfl) ?_
            refine hh_getr X h fm_0_17 in_X9_set_X9 km_0 (by decide) (List.mem_of_getElem? (i := 2) rfl) rfl dX9_set_65 ?_
            refine lv_iload_n hx hb1 dX9_set_68 rfl (lv_at hl 3 rfl) ?_
            obtain ⟨h71, hq⟩ := hq
            refine hh_ild X h am_14 h71 dX9_set_69 ?_
            refine lv_topi (fun v72 ev72 => ?_)
            have hq := hq v72 ev72
            refine lv_istore (lv' := [(5, .int v72), (4, .int (100000 : Int32)), (3, .int (1 : Int32)), (0, .ref (ad 0)), (1, .int x1), (2, .int x2)]) hx hb1 dX9_set_70 hl (by decide) rfl (fun ls hl => ?_)
            refine lv_aload_n hx hb1 dX9_set_72 rfl (lv_at hl 3 rfl) ?_
            refine hh_getr X h fm_0_17 in_X9_set_X9 km_0 (by decide) (List.mem_of_getElem? (i := 2) rfl) rfl dX9_set_73 ?_
            refine lv_iload_n hx hb1 dX9_set_76 rfl (lv_at hl 4 rfl) ?_
            refine lv_iload_n hx hb1 dX9_set_77 rfl (lv_at hl 5 rfl) ?_
            obtain ⟨h73, hq⟩ := hq
            refine hh_ist X h am_14 h73 dX9_set_78 (fun σ74 H locs eσ74 h => ?_)
            have hq := hq σ74 eσ74
            refine lv_iload hx hb1 dX9_set_79 (lv_at hl 0 rfl) ?_
            exact hh_iret X h hr hlocks hq dX9_set_81
          · have hq := hq.2 c70
            refine lv_bipush (v := (-2 : Int32)) hx hb1 dX9_set_61 (by decide) ?_
            exact hh_iret X h hr hlocks hq dX9_set_63
  · have hq := hq.2 c3
    refine lv_bipush (v := (-2 : Int32)) hx hb1 dX9_set_9 (by decide) ?_
    exact hh_iret X h hr hlocks hq dX9_set_11
theorem nd_X9_at : yX9_at.cls ≠ "java/lang/invoke/MethodHandle" ∧ yX9_at.cls ≠ "java/lang/invoke/VarHandle" ∧ (parseMethodDescriptor yX9_at.desc).map (fun d => d.parameters.length) = some 4 := by decide +kernel
abbrev rm_X9_at : Room := { frames := 0, cells := 0, slots := 0, locals := 0 }
def wp_X9_at (x0 : Int32) (x1 : Int32) (x2 : Int32) (x3 : Int32) (σ : hh_S) (Q : Int32 → hh_S → Prop) : Prop := (Q (((((48 : Int32) * x0) + ((16 : Int32) * (x1 - (2 : Int32)))) + ((4 : Int32) * x2)) + x3) σ)
set_option maxHeartbeats 4000000 in
set_option maxRecDepth 100000 in
theorem ad_X9_at {D : va_G} (l : Launch) {cy : Nat → ClassId} {ad : Nat → Nat} (J : hh_J hm_Y ad) (x0 : Int32) (x1 : Int32) (x2 : Int32) (x3 : Int32) (σ : hh_S) (Q : Int32 → hh_S → Prop) (hq : wp_X9_at x0 x1 x2 x3 σ Q) : Met l yX9_at wsX9_at rm_X9_at (va_Pc [.int x0, .int x1, .int x2, .int x3] (hh_B D hh_cl hm_Y cy ad σ)) (va_Qi Q (hh_B D hh_cl hm_Y cy ad) (hh_A hm_Y ad)) 0 0 (hh_A hm_Y ad) := by
  refine Met.ofW (cc := cX9_at) (maxL := 4) (ret := (some .int)) (by decide) rfl ?_
  intro p e s m args below meth c s₁ B hml hv
  obtain ⟨hargs, hP0, hK0⟩ := hv
  have hr := B.returns
  have hlocks := B.notSynchronized
  have X : hh_X p m c cX9_at 4 s args wsX9_at RX9 D hh_cl hm_Y cy ad := ⟨⟨B.exec, B.bytes, hml, findClass_of_methodNamed B.named, atoms_spec (ws := wsX9_at) B.pre⟩, hK0, J⟩
  have hx := X.1.1
  have hb1 := X.1.2.1
  have h : hh_H D hh_cl hm_Y cy ad s.heap σ s.heap [] := ⟨hP0, va_S.rf⟩
  subst hargs
  refine hh_entry (vs := [.int x0, .int x1, .int x2, .int x3]) (Nat.le_of_ble_eq_true rfl) (fun ls hl => ?_)
  have hl : lv_has ls 4 [(0, .int x0), (1, .int x1), (2, .int x2), (3, .int x3)] := hl
  have hq : wp_X9_at x0 x1 x2 x3 σ Q := hq
  unfold wp_X9_at at hq
  refine lv_bipush (v := (48 : Int32)) hx hb1 dX9_at_0 (by decide) ?_
  refine lv_iload_n hx hb1 dX9_at_2 rfl (lv_at hl 0 rfl) ?_
  refine lv_imul hx hb1 dX9_at_3 ?_
  refine lv_bipush (v := (16 : Int32)) hx hb1 dX9_at_4 (by decide) ?_
  refine lv_iload_n hx hb1 dX9_at_6 rfl (lv_at hl 1 rfl) ?_
  refine lv_iconst (v := (2 : Int32)) hx hb1 dX9_at_7 (by decide) ?_
  refine lv_isub hx hb1 dX9_at_8 ?_
  refine lv_imul hx hb1 dX9_at_9 ?_
  refine lv_iadd hx hb1 dX9_at_10 ?_
  refine lv_iconst (v := (4 : Int32)) hx hb1 dX9_at_11 (by decide) ?_
  refine lv_iload_n hx hb1 dX9_at_12 rfl (lv_at hl 2 rfl) ?_
  refine lv_imul hx hb1 dX9_at_13 ?_
  refine lv_iadd hx hb1 dX9_at_14 ?_
  refine lv_iload_n hx hb1 dX9_at_15 rfl (lv_at hl 3 rfl) ?_
  refine lv_iadd hx hb1 dX9_at_16 ?_
  exact hh_iret X h hr hlocks hq dX9_at_17
