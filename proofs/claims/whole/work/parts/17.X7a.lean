theorem nd_X7_add : yX7_add.cls = RX7 ∧ yX7_add.cls ≠ "java/lang/invoke/MethodHandle" ∧ yX7_add.cls ≠ "java/lang/invoke/VarHandle" ∧ (parseMethodDescriptor yX7_add.desc).map (fun d => d.parameters.length) = some 1 := by decide +kernel
abbrev rm_X7_add : Room := { frames := 0, cells := 0, slots := 0, locals := 0 }
def wp_X7_add (x1 : Int32) (σ : hh_S) (Q : Int32 → hh_S → Prop) : Prop := (((hh_I σ 64) < (60 : Int32) → (vp_in (hh_I σ 64) 60 ∧ ∀ σ3 : hh_S, σ3 = hh_sA σ 19 (hh_I σ 64) x1 → (∀ σ4 : hh_S, σ4 = hh_uI σ3 64 ((hh_I σ3 64) + (1 : Int32)) → (Q (1 : Int32) σ4)))) ∧ (¬ (hh_I σ 64) < (60 : Int32) → (Q (0 : Int32) σ)))
theorem in_X7_add_X7 : ∀ w ∈ u_ws RX7 TX7 7, w ∈ wsX7_add := fun w h => List.mem_cons_of_mem _ (List.mem_append_right _ h)
set_option maxHeartbeats 4000000 in
set_option maxRecDepth 100000 in
theorem ad_X7_add {D : va_G} (l : Launch) {cy : Nat → ClassId} {ad : Nat → Nat} (J : hh_J hc_Y ad) (x1 : Int32) (σ : hh_S) (Q : Int32 → hh_S → Prop) (hq : wp_X7_add x1 σ Q) : Met l yX7_add wsX7_add rm_X7_add (va_Pc [.ref (ad 1), .int x1] (hh_B D hh_cl hc_Y cy ad σ)) (va_Qi Q (hh_B D hh_cl hc_Y cy ad) (hh_A hc_Y ad)) 0 0 (hh_A hc_Y ad) := by
  refine Met.ofW (cc := cX7_add) (maxL := 2) (ret := (some .boolean)) (by decide) rfl ?_
  intro p e s m args below meth c s₁ B hml hv
  obtain ⟨hargs, hP0, hK0⟩ := hv
  have hr := B.returns
  have hlocks := B.notSynchronized
  have X : hh_X p m c cX7_add 2 s args wsX7_add RX7 D hh_cl hc_Y cy ad := ⟨⟨B.exec, B.bytes, hml, findClass_of_methodNamed B.named, atoms_spec (ws := wsX7_add) B.pre⟩, hK0, J⟩
  have hx := X.1.1
  have hb1 := X.1.2.1
  have h : hh_H D hh_cl hc_Y cy ad s.heap σ s.heap [] := ⟨hP0, va_S.rf⟩
  subst hargs
  refine hh_entry (vs := [.ref (ad 1), .int x1]) (Nat.le_of_ble_eq_true rfl) (fun ls hl => ?_)
  have hl : lv_has ls 2 [(0, .ref (ad 1)), (1, .int x1)] := hl
  have hq : wp_X7_add x1 σ Q := hq
  unfold wp_X7_add at hq
  refine lv_aload_n hx hb1 dX7_add_0 rfl (lv_at hl 0 rfl) ?_
  refine hh_geti X h (q := 64) fc_1_0 rfl in_X7_add_X7 kc_1 (by decide) (List.mem_of_getElem? (i := 1) rfl) rfl dX7_add_1 ?_
  refine lv_bipush (v := (60 : Int32)) hx hb1 dX7_add_4 (by decide) ?_
  refine lv_icmp_lt (tgt := 11) hx hb1 dX7_add_6 (by decide) (fun c1 => ?_) (fun c1 => ?_)
  · have hq := hq.1 c1
    refine lv_aload_n hx hb1 dX7_add_11 rfl (lv_at hl 0 rfl) ?_
    refine hh_getr X h fc_1_2 in_X7_add_X7 kc_1 (by decide) (List.mem_of_getElem? (i := 2) rfl) rfl dX7_add_12 ?_
    refine lv_aload_n hx hb1 dX7_add_15 rfl (lv_at hl 0 rfl) ?_
    refine hh_geti X h (q := 64) fc_1_0 rfl in_X7_add_X7 kc_1 (by decide) (List.mem_of_getElem? (i := 1) rfl) rfl dX7_add_16 ?_
    refine lv_iload_n hx hb1 dX7_add_19 rfl (lv_at hl 1 rfl) ?_
    obtain ⟨h2, hq⟩ := hq
    refine hh_ist X h ac_19 h2 dX7_add_20 (fun σ3 H locs eσ3 h => ?_)
    have hq := hq σ3 eσ3
    refine lv_aload_n hx hb1 dX7_add_21 rfl (lv_at hl 0 rfl) ?_
    refine lv_dup hx hb1 dX7_add_22 rfl ?_
    refine hh_geti X h (q := 64) fc_1_0 rfl in_X7_add_X7 kc_1 (by decide) (List.mem_of_getElem? (i := 1) rfl) rfl dX7_add_23 ?_
    refine lv_iconst (v := (1 : Int32)) hx hb1 dX7_add_26 (by decide) ?_
    refine lv_iadd hx hb1 dX7_add_27 ?_
    refine hh_puti X h (q := 64) hc_n fc_1_0 rfl in_X7_add_X7 kc_1 tyX7 tyX7_ok nmX7 (by decide) (List.mem_of_getElem? (i := 1) rfl) rfl rfl rfl rfl dX7_add_28 (fun σ4 H locs eσ4 h => ?_)
    have hq := hq σ4 eσ4
    refine lv_iconst (v := (1 : Int32)) hx hb1 dX7_add_31 (by decide) ?_
    exact hh_zret X h hr hlocks rfl hq dX7_add_32
  · have hq := hq.2 c1
    refine lv_iconst (v := (0 : Int32)) hx hb1 dX7_add_9 (by decide) ?_
    exact hh_zret X h hr hlocks rfl hq dX7_add_10
theorem nd_X7_goesOn : yX7_goesOn.cls = RX7 ∧ yX7_goesOn.cls ≠ "java/lang/invoke/MethodHandle" ∧ yX7_goesOn.cls ≠ "java/lang/invoke/VarHandle" ∧ (parseMethodDescriptor yX7_goesOn.desc).map (fun d => d.parameters.length) = some 2 := by decide +kernel
abbrev rm_X7_goesOn : Room := { frames := 0, cells := 0, slots := 0, locals := 0 }
def wp_X7_goesOn (x1 : Int32) (x2 : Int32) (σ : hh_S) (Q : Int32 → hh_S → Prop) : Prop := ((x1 = 0 → ((narrow .boolean (.int x1) = .int x1) ∧ Q x1 σ)) ∧ (¬ x1 = 0 → (∀ σ3 : hh_S, σ3 = hh_uI σ 67 x2 → ((narrow .boolean (.int x1) = .int x1) ∧ Q x1 σ3))))
theorem in_X7_goesOn_X7 : ∀ w ∈ u_ws RX7 TX7 7, w ∈ wsX7_goesOn := fun w h => List.mem_cons_of_mem _ (List.mem_append_right _ h)
set_option maxHeartbeats 4000000 in
set_option maxRecDepth 100000 in
theorem ad_X7_goesOn {D : va_G} (l : Launch) {cy : Nat → ClassId} {ad : Nat → Nat} (J : hh_J hc_Y ad) (x1 : Int32) (x2 : Int32) (σ : hh_S) (Q : Int32 → hh_S → Prop) (hq : wp_X7_goesOn x1 x2 σ Q) : Met l yX7_goesOn wsX7_goesOn rm_X7_goesOn (va_Pc [.ref (ad 1), .int x1, .int x2] (hh_B D hh_cl hc_Y cy ad σ)) (va_Qi Q (hh_B D hh_cl hc_Y cy ad) (hh_A hc_Y ad)) 0 0 (hh_A hc_Y ad) := by
  refine Met.ofW (cc := cX7_goesOn) (maxL := 3) (ret := (some .boolean)) (by decide) rfl ?_
  intro p e s m args below meth c s₁ B hml hv
  obtain ⟨hargs, hP0, hK0⟩ := hv
  have hr := B.returns
  have hlocks := B.notSynchronized
  have X : hh_X p m c cX7_goesOn 3 s args wsX7_goesOn RX7 D hh_cl hc_Y cy ad := ⟨⟨B.exec, B.bytes, hml, findClass_of_methodNamed B.named, atoms_spec (ws := wsX7_goesOn) B.pre⟩, hK0, J⟩
  have hx := X.1.1
  have hb1 := X.1.2.1
  have h : hh_H D hh_cl hc_Y cy ad s.heap σ s.heap [] := ⟨hP0, va_S.rf⟩
  subst hargs
  refine hh_entry (vs := [.ref (ad 1), .int x1, .int x2]) (Nat.le_of_ble_eq_true rfl) (fun ls hl => ?_)
  have hl : lv_has ls 3 [(0, .ref (ad 1)), (1, .int x1), (2, .int x2)] := hl
  have hq : wp_X7_goesOn x1 x2 σ Q := hq
  unfold wp_X7_goesOn at hq
  refine lv_iload_n hx hb1 dX7_goesOn_0 rfl (lv_at hl 1 rfl) ?_
  refine lv_if_eq (tgt := 9) hx hb1 dX7_goesOn_1 (by decide) (fun c1 => ?_) (fun c1 => ?_)
  · have hq := hq.1 c1
    refine lv_iload_n hx hb1 dX7_goesOn_9 rfl (lv_at hl 1 rfl) ?_
    obtain ⟨h2, hq⟩ := hq
    exact hh_zret X h hr hlocks h2 hq dX7_goesOn_10
  · have hq := hq.2 c1
    refine lv_aload_n hx hb1 dX7_goesOn_4 rfl (lv_at hl 0 rfl) ?_
    refine lv_iload_n hx hb1 dX7_goesOn_5 rfl (lv_at hl 2 rfl) ?_
    refine hh_puti X h (q := 67) hc_n fc_1_3 rfl in_X7_goesOn_X7 kc_1 tyX7 tyX7_ok nmX7 (by decide) (List.mem_of_getElem? (i := 1) rfl) rfl rfl rfl rfl dX7_goesOn_6 (fun σ3 H locs eσ3 h => ?_)
    have hq := hq σ3 eσ3
    refine lv_iload_n hx hb1 dX7_goesOn_9 rfl (lv_at hl 1 rfl) ?_
    obtain ⟨h4, hq⟩ := hq
    exact hh_zret X h hr hlocks h4 hq dX7_goesOn_10
theorem nd_X7_takesDigit : yX7_takesDigit.cls = RX7 ∧ yX7_takesDigit.cls ≠ "java/lang/invoke/MethodHandle" ∧ yX7_takesDigit.cls ≠ "java/lang/invoke/VarHandle" ∧ (parseMethodDescriptor yX7_takesDigit.desc).map (fun d => d.parameters.length) = some 1 := by decide +kernel
abbrev rm_X7_takesDigit : Room := { frames := 1, cells := 0, slots := 0, locals := 22 }
def wp_X7_takesDigit (x1 : Int32) (σ : hh_S) (Q : Int32 → hh_S → Prop) : Prop := ((x1 < 0 → (Q (0 : Int32) σ)) ∧ (¬ x1 < 0 → (((9 : Int32) < x1 → (Q (0 : Int32) σ)) ∧ (¬ (9 : Int32) < x1 → (((hh_I σ 70) < (3 : Int32) → (vp_in (hh_I σ 68) 8 ∧ (vp_in (hh_I σ 68) 8 ∧ ∀ σ6 : hh_S, σ6 = hh_sA σ 18 (hh_I σ 68) (((hh_rA σ 18 (hh_I σ 68)) * (10 : Int32)) + x1) → (∀ σ7 : hh_S, σ7 = hh_uI σ6 70 ((hh_I σ6 70) + (1 : Int32)) → (wp_X7_goesOn (1 : Int32) (8 : Int32) σ7 (fun (r8 : Int32) (σ9 : hh_S) => ((narrow .boolean (.int r8) = .int r8) ∧ Q r8 σ9))))))) ∧ (¬ (hh_I σ 70) < (3 : Int32) → (Q (0 : Int32) σ)))))))
theorem in_X7_takesDigit_X7 : ∀ w ∈ u_ws RX7 TX7 7, w ∈ wsX7_takesDigit := fun w h => List.mem_cons_of_mem _ (List.mem_append_left _ (List.mem_append_right _ h))
theorem in_X7_takesDigit_X6 : ∀ w ∈ u_ws RX6 TX6 5, w ∈ wsX7_takesDigit := fun w h => List.mem_cons_of_mem _ (List.mem_append_right _ h)
set_option maxHeartbeats 4000000 in
set_option maxRecDepth 100000 in
theorem ad_X7_takesDigit {D : va_G} (l : Launch) {cy : Nat → ClassId} {ad : Nat → Nat} (J : hh_J hc_Y ad) (x1 : Int32) (σ : hh_S) (Q : Int32 → hh_S → Prop) (hq : wp_X7_takesDigit x1 σ Q) : Met l yX7_takesDigit wsX7_takesDigit rm_X7_takesDigit (va_Pc [.ref (ad 1), .int x1] (hh_B D hh_cl hc_Y cy ad σ)) (va_Qi Q (hh_B D hh_cl hc_Y cy ad) (hh_A hc_Y ad)) 0 0 (hh_A hc_Y ad) := by
  refine Met.ofW (cc := cX7_takesDigit) (maxL := 2) (ret := (some .boolean)) (by decide) rfl ?_
  intro p e s m args below meth c s₁ B hml hv
  obtain ⟨hargs, hP0, hK0⟩ := hv
  have hr := B.returns
  have hlocks := B.notSynchronized
  have X : hh_X p m c cX7_takesDigit 2 s args wsX7_takesDigit RX7 D hh_cl hc_Y cy ad := ⟨⟨B.exec, B.bytes, hml, findClass_of_methodNamed B.named, atoms_spec (ws := wsX7_takesDigit) B.pre⟩, hK0, J⟩
  have hx := X.1.1
  have hb1 := X.1.2.1
  have h : hh_H D hh_cl hc_Y cy ad s.heap σ s.heap [] := ⟨hP0, va_S.rf⟩
  subst hargs
  refine hh_entry (vs := [.ref (ad 1), .int x1]) (Nat.le_of_ble_eq_true rfl) (fun ls hl => ?_)
  have hl : lv_has ls 2 [(0, .ref (ad 1)), (1, .int x1)] := hl
  have hq : wp_X7_takesDigit x1 σ Q := hq
  unfold wp_X7_takesDigit at hq
  refine lv_iload_n hx hb1 dX7_takesDigit_0 rfl (lv_at hl 1 rfl) ?_
  refine lv_if_lt (tgt := 18) hx hb1 dX7_takesDigit_1 (by decide) (fun c1 => ?_) (fun c1 => ?_)
  · have hq := hq.1 c1
    refine lv_iconst (v := (0 : Int32)) hx hb1 dX7_takesDigit_18 (by decide) ?_
    exact hh_zret X h hr hlocks rfl hq dX7_takesDigit_19
  · have hq := hq.2 c1
    refine lv_iload_n hx hb1 dX7_takesDigit_4 rfl (lv_at hl 1 rfl) ?_
    refine lv_bipush (v := (9 : Int32)) hx hb1 dX7_takesDigit_5 (by decide) ?_
    refine lv_icmp_gt (tgt := 18) hx hb1 dX7_takesDigit_7 (by decide) (fun c2 => ?_) (fun c2 => ?_)
    · have hq := hq.1 c2
      refine lv_iconst (v := (0 : Int32)) hx hb1 dX7_takesDigit_18 (by decide) ?_
      exact hh_zret X h hr hlocks rfl hq dX7_takesDigit_19
    · have hq := hq.2 c2
      refine lv_aload_n hx hb1 dX7_takesDigit_10 rfl (lv_at hl 0 rfl) ?_
      refine hh_geti X h (q := 70) fc_1_6 rfl in_X7_takesDigit_X7 kc_1 (by decide) (List.mem_of_getElem? (i := 1) rfl) rfl dX7_takesDigit_11 ?_
      refine lv_iconst (v := (3 : Int32)) hx hb1 dX7_takesDigit_14 (by decide) ?_
      refine lv_icmp_lt (tgt := 20) hx hb1 dX7_takesDigit_15 (by decide) (fun c3 => ?_) (fun c3 => ?_)
      · have hq := hq.1 c3
        refine lv_aload_n hx hb1 dX7_takesDigit_20 rfl (lv_at hl 0 rfl) ?_
        refine hh_getr X h fc_1_1 in_X7_takesDigit_X7 kc_1 (by decide) (List.mem_of_getElem? (i := 2) rfl) rfl dX7_takesDigit_21 ?_
        refine hh_getr X h fc_3_4 in_X7_takesDigit_X6 kc_3 (by decide) (List.mem_of_getElem? (i := 3) rfl) rfl dX7_takesDigit_24 ?_
        refine lv_aload_n hx hb1 dX7_takesDigit_27 rfl (lv_at hl 0 rfl) ?_
        refine hh_geti X h (q := 68) fc_1_4 rfl in_X7_takesDigit_X7 kc_1 (by decide) (List.mem_of_getElem? (i := 4) rfl) rfl dX7_takesDigit_28 ?_
        refine lv_aload_n hx hb1 dX7_takesDigit_31 rfl (lv_at hl 0 rfl) ?_
        refine hh_getr X h fc_1_1 in_X7_takesDigit_X7 kc_1 (by decide) (List.mem_of_getElem? (i := 2) rfl) rfl dX7_takesDigit_32 ?_
        refine hh_getr X h fc_3_4 in_X7_takesDigit_X6 kc_3 (by decide) (List.mem_of_getElem? (i := 3) rfl) rfl dX7_takesDigit_35 ?_
        refine lv_aload_n hx hb1 dX7_takesDigit_38 rfl (lv_at hl 0 rfl) ?_
        refine hh_geti X h (q := 68) fc_1_4 rfl in_X7_takesDigit_X7 kc_1 (by decide) (List.mem_of_getElem? (i := 4) rfl) rfl dX7_takesDigit_39 ?_
        obtain ⟨h4, hq⟩ := hq
        refine hh_ild X h ac_18 h4 dX7_takesDigit_42 ?_
        refine lv_bipush (v := (10 : Int32)) hx hb1 dX7_takesDigit_43 (by decide) ?_
        refine lv_imul hx hb1 dX7_takesDigit_45 ?_
        refine lv_iload_n hx hb1 dX7_takesDigit_46 rfl (lv_at hl 1 rfl) ?_
        refine lv_iadd hx hb1 dX7_takesDigit_47 ?_
        obtain ⟨h5, hq⟩ := hq
        refine hh_ist X h ac_18 h5 dX7_takesDigit_48 (fun σ6 H locs eσ6 h => ?_)
        have hq := hq σ6 eσ6
        refine lv_aload_n hx hb1 dX7_takesDigit_49 rfl (lv_at hl 0 rfl) ?_
        refine lv_dup hx hb1 dX7_takesDigit_50 rfl ?_
        refine hh_geti X h (q := 70) fc_1_6 rfl in_X7_takesDigit_X7 kc_1 (by decide) (List.mem_of_getElem? (i := 1) rfl) rfl dX7_takesDigit_51 ?_
        refine lv_iconst (v := (1 : Int32)) hx hb1 dX7_takesDigit_54 (by decide) ?_
        refine lv_iadd hx hb1 dX7_takesDigit_55 ?_
        refine hh_puti X h (q := 70) hc_n fc_1_6 rfl in_X7_takesDigit_X7 kc_1 tyX7 tyX7_ok nmX7 (by decide) (List.mem_of_getElem? (i := 1) rfl) rfl rfl rfl rfl dX7_takesDigit_56 (fun σ7 H locs eσ7 h => ?_)
        have hq := hq σ7 eσ7
        refine lv_aload_n hx hb1 dX7_takesDigit_59 rfl (lv_at hl 0 rfl) ?_
        refine lv_iconst (v := (1 : Int32)) hx hb1 dX7_takesDigit_60 (by decide) ?_
        refine lv_bipush (v := (8 : Int32)) hx hb1 dX7_takesDigit_61 (by decide) ?_
        refine hh_kI h (va_runV (As := [.int (1 : Int32), .int (8 : Int32)]) (rest := []) X.1 (ad_X7_goesOn (D := D) l J (1 : Int32) (8 : Int32) σ7 _ hq) (cwV 2 X.1.2.2.2.2 gX7_takesDigit_X7_goesOn rfl rfl rfl nd_X7_goesOn ⟨Nat.le_of_ble_eq_true rfl, Nat.le_of_ble_eq_true rfl⟩) (hh_preV X h fc_1_0 kc_1 [.int (1 : Int32), .int (8 : Int32)]) rfl rfl hl.1 rfl (lv_room (Nat.le_of_ble_eq_true rfl)) dX7_takesDigit_63 ⟨Nat.le_of_ble_eq_true rfl, Nat.le_of_ble_eq_true rfl⟩) (fun r8 σ9 H locs hq h => ?_)
        obtain ⟨h10, hq⟩ := hq
        exact hh_zret X h hr hlocks h10 hq dX7_takesDigit_66
      · have hq := hq.2 c3
        refine lv_iconst (v := (0 : Int32)) hx hb1 dX7_takesDigit_18 (by decide) ?_
        exact hh_zret X h hr hlocks rfl hq dX7_takesDigit_19
theorem nd_X7_takesLabels : yX7_takesLabels.cls = RX7 ∧ yX7_takesLabels.cls ≠ "java/lang/invoke/MethodHandle" ∧ yX7_takesLabels.cls ≠ "java/lang/invoke/VarHandle" ∧ (parseMethodDescriptor yX7_takesLabels.desc).map (fun d => d.parameters.length) = some 1 := by decide +kernel
abbrev rm_X7_takesLabels : Room := { frames := 1, cells := 0, slots := 0, locals := 22 }
def wp_X7_takesLabels (x1 : Int32) (σ : hh_S) (Q : Int32 → hh_S → Prop) : Prop := ((x1 < (2 : Int32) → (Q (0 : Int32) σ)) ∧ (¬ x1 < (2 : Int32) → ((x1 ≤ (4 : Int32) → (vp_in (hh_I σ 68) 8 ∧ ∀ σ4 : hh_S, σ4 = hh_sA σ 16 (hh_I σ 68) x1 → (wp_X7_goesOn (1 : Int32) (4 : Int32) σ4 (fun (r5 : Int32) (σ6 : hh_S) => ((narrow .boolean (.int r5) = .int r5) ∧ Q r5 σ6))))) ∧ (¬ x1 ≤ (4 : Int32) → (Q (0 : Int32) σ)))))
theorem in_X7_takesLabels_X7 : ∀ w ∈ u_ws RX7 TX7 7, w ∈ wsX7_takesLabels := fun w h => List.mem_cons_of_mem _ (List.mem_append_left _ (List.mem_append_right _ h))
theorem in_X7_takesLabels_X6 : ∀ w ∈ u_ws RX6 TX6 5, w ∈ wsX7_takesLabels := fun w h => List.mem_cons_of_mem _ (List.mem_append_right _ h)
set_option maxHeartbeats 4000000 in
set_option maxRecDepth 100000 in
theorem ad_X7_takesLabels {D : va_G} (l : Launch) {cy : Nat → ClassId} {ad : Nat → Nat} (J : hh_J hc_Y ad) (x1 : Int32) (σ : hh_S) (Q : Int32 → hh_S → Prop) (hq : wp_X7_takesLabels x1 σ Q) : Met l yX7_takesLabels wsX7_takesLabels rm_X7_takesLabels (va_Pc [.ref (ad 1), .int x1] (hh_B D hh_cl hc_Y cy ad σ)) (va_Qi Q (hh_B D hh_cl hc_Y cy ad) (hh_A hc_Y ad)) 0 0 (hh_A hc_Y ad) := by
  refine Met.ofW (cc := cX7_takesLabels) (maxL := 2) (ret := (some .boolean)) (by decide) rfl ?_
  intro p e s m args below meth c s₁ B hml hv
  obtain ⟨hargs, hP0, hK0⟩ := hv
  have hr := B.returns
  have hlocks := B.notSynchronized
  have X : hh_X p m c cX7_takesLabels 2 s args wsX7_takesLabels RX7 D hh_cl hc_Y cy ad := ⟨⟨B.exec, B.bytes, hml, findClass_of_methodNamed B.named, atoms_spec (ws := wsX7_takesLabels) B.pre⟩, hK0, J⟩
  have hx := X.1.1
  have hb1 := X.1.2.1
  have h : hh_H D hh_cl hc_Y cy ad s.heap σ s.heap [] := ⟨hP0, va_S.rf⟩
  subst hargs
  refine hh_entry (vs := [.ref (ad 1), .int x1]) (Nat.le_of_ble_eq_true rfl) (fun ls hl => ?_)
  have hl : lv_has ls 2 [(0, .ref (ad 1)), (1, .int x1)] := hl
  have hq : wp_X7_takesLabels x1 σ Q := hq
  unfold wp_X7_takesLabels at hq
  refine lv_iload_n hx hb1 dX7_takesLabels_0 rfl (lv_at hl 1 rfl) ?_
  refine lv_iconst (v := (2 : Int32)) hx hb1 dX7_takesLabels_1 (by decide) ?_
  refine lv_icmp_lt (tgt := 10) hx hb1 dX7_takesLabels_2 (by decide) (fun c1 => ?_) (fun c1 => ?_)
  · have hq := hq.1 c1
    refine lv_iconst (v := (0 : Int32)) hx hb1 dX7_takesLabels_10 (by decide) ?_
    exact hh_zret X h hr hlocks rfl hq dX7_takesLabels_11
  · have hq := hq.2 c1
    refine lv_iload_n hx hb1 dX7_takesLabels_5 rfl (lv_at hl 1 rfl) ?_
    refine lv_iconst (v := (4 : Int32)) hx hb1 dX7_takesLabels_6 (by decide) ?_
    refine lv_icmp_le (tgt := 12) hx hb1 dX7_takesLabels_7 (by decide) (fun c2 => ?_) (fun c2 => ?_)
    · have hq := hq.1 c2
      refine lv_aload_n hx hb1 dX7_takesLabels_12 rfl (lv_at hl 0 rfl) ?_
      refine hh_getr X h fc_1_1 in_X7_takesLabels_X7 kc_1 (by decide) (List.mem_of_getElem? (i := 1) rfl) rfl dX7_takesLabels_13 ?_
      refine hh_getr X h fc_3_2 in_X7_takesLabels_X6 kc_3 (by decide) (List.mem_of_getElem? (i := 2) rfl) rfl dX7_takesLabels_16 ?_
      refine lv_aload_n hx hb1 dX7_takesLabels_19 rfl (lv_at hl 0 rfl) ?_
      refine hh_geti X h (q := 68) fc_1_4 rfl in_X7_takesLabels_X7 kc_1 (by decide) (List.mem_of_getElem? (i := 3) rfl) rfl dX7_takesLabels_20 ?_
      refine lv_iload_n hx hb1 dX7_takesLabels_23 rfl (lv_at hl 1 rfl) ?_
      obtain ⟨h3, hq⟩ := hq
      refine hh_ist X h ac_16 h3 dX7_takesLabels_24 (fun σ4 H locs eσ4 h => ?_)
      have hq := hq σ4 eσ4
      refine lv_aload_n hx hb1 dX7_takesLabels_25 rfl (lv_at hl 0 rfl) ?_
      refine lv_iconst (v := (1 : Int32)) hx hb1 dX7_takesLabels_26 (by decide) ?_
      refine lv_iconst (v := (4 : Int32)) hx hb1 dX7_takesLabels_27 (by decide) ?_
      refine hh_kI h (va_runV (As := [.int (1 : Int32), .int (4 : Int32)]) (rest := []) X.1 (ad_X7_goesOn (D := D) l J (1 : Int32) (4 : Int32) σ4 _ hq) (cwV 2 X.1.2.2.2.2 gX7_takesLabels_X7_goesOn rfl rfl rfl nd_X7_goesOn ⟨Nat.le_of_ble_eq_true rfl, Nat.le_of_ble_eq_true rfl⟩) (hh_preV X h fc_1_0 kc_1 [.int (1 : Int32), .int (4 : Int32)]) rfl rfl hl.1 rfl (lv_room (Nat.le_of_ble_eq_true rfl)) dX7_takesLabels_28 ⟨Nat.le_of_ble_eq_true rfl, Nat.le_of_ble_eq_true rfl⟩) (fun r5 σ6 H locs hq h => ?_)
      obtain ⟨h7, hq⟩ := hq
      exact hh_zret X h hr hlocks h7 hq dX7_takesLabels_31
    · have hq := hq.2 c2
      refine lv_iconst (v := (0 : Int32)) hx hb1 dX7_takesLabels_10 (by decide) ?_
      exact hh_zret X h hr hlocks rfl hq dX7_takesLabels_11
theorem nd_X7_takesName : yX7_takesName.cls = RX7 ∧ yX7_takesName.cls ≠ "java/lang/invoke/MethodHandle" ∧ yX7_takesName.cls ≠ "java/lang/invoke/VarHandle" ∧ (parseMethodDescriptor yX7_takesName.desc).map (fun d => d.parameters.length) = some 1 := by decide +kernel
abbrev rm_X7_takesName : Room := { frames := 1, cells := 0, slots := 0, locals := 23 }
def wp_X7_takesName (x1 : Int32) (σ : hh_S) (Q : Int32 → hh_S → Prop) : Prop := ((x1 < 0 → (Q (0 : Int32) σ)) ∧ (¬ x1 < 0 → (((8 : Int32) ≤ x1 → (Q (0 : Int32) σ)) ∧ (¬ (8 : Int32) ≤ x1 → (((8 : Int32) ≤ (hh_I σ 192) → (Q (0 : Int32) σ)) ∧ (¬ (8 : Int32) ≤ (hh_I σ 192) → (wp_X6_named x1 (hh_I σ 192) σ (fun (r4 : Int32) (σ5 : hh_S) => ((r4 = (-6 : Int32) → (∀ σ7 : hh_S, σ7 = hh_uI σ5 68 (hh_I σ5 192) → (wp_X6_add x1 σ7 (fun (σ9 : hh_S) => (∀ σ10 : hh_S, σ10 = hh_uI σ9 69 (-1 : Int32) → (∀ σ11 : hh_S, σ11 = hh_uI σ10 70 (0 : Int32) → (wp_X7_goesOn (1 : Int32) (1 : Int32) σ11 (fun (r12 : Int32) (σ13 : hh_S) => ((narrow .boolean (.int r12) = .int r12) ∧ Q r12 σ13))))))))) ∧ (¬ r4 = (-6 : Int32) → (Q (0 : Int32) σ5)))))))))))
theorem in_X7_takesName_X7 : ∀ w ∈ u_ws RX7 TX7 7, w ∈ wsX7_takesName := fun w h => List.mem_cons_of_mem _ (List.mem_append_left _ (List.mem_append_right _ h))
theorem in_X7_takesName_X6 : ∀ w ∈ u_ws RX6 TX6 5, w ∈ wsX7_takesName := fun w h => List.mem_cons_of_mem _ (List.mem_append_right _ h)
set_option maxHeartbeats 4000000 in
set_option maxRecDepth 100000 in
theorem ad_X7_takesName {D : va_G} (l : Launch) {cy : Nat → ClassId} {ad : Nat → Nat} (J : hh_J hc_Y ad) (x1 : Int32) (σ : hh_S) (Q : Int32 → hh_S → Prop) (hq : wp_X7_takesName x1 σ Q) : Met l yX7_takesName wsX7_takesName rm_X7_takesName (va_Pc [.ref (ad 1), .int x1] (hh_B D hh_cl hc_Y cy ad σ)) (va_Qi Q (hh_B D hh_cl hc_Y cy ad) (hh_A hc_Y ad)) 0 0 (hh_A hc_Y ad) := by
  refine Met.ofW (cc := cX7_takesName) (maxL := 2) (ret := (some .boolean)) (by decide) rfl ?_
  intro p e s m args below meth c s₁ B hml hv
  obtain ⟨hargs, hP0, hK0⟩ := hv
  have hr := B.returns
  have hlocks := B.notSynchronized
  have X : hh_X p m c cX7_takesName 2 s args wsX7_takesName RX7 D hh_cl hc_Y cy ad := ⟨⟨B.exec, B.bytes, hml, findClass_of_methodNamed B.named, atoms_spec (ws := wsX7_takesName) B.pre⟩, hK0, J⟩
  have hx := X.1.1
  have hb1 := X.1.2.1
  have h : hh_H D hh_cl hc_Y cy ad s.heap σ s.heap [] := ⟨hP0, va_S.rf⟩
  subst hargs
  refine hh_entry (vs := [.ref (ad 1), .int x1]) (Nat.le_of_ble_eq_true rfl) (fun ls hl => ?_)
  have hl : lv_has ls 2 [(0, .ref (ad 1)), (1, .int x1)] := hl
  have hq : wp_X7_takesName x1 σ Q := hq
  unfold wp_X7_takesName at hq
  refine lv_iload_n hx hb1 dX7_takesName_0 rfl (lv_at hl 1 rfl) ?_
  refine lv_if_lt (tgt := 42) hx hb1 dX7_takesName_1 (by decide) (fun c1 => ?_) (fun c1 => ?_)
  · have hq := hq.1 c1
    refine lv_iconst (v := (0 : Int32)) hx hb1 dX7_takesName_42 (by decide) ?_
    exact hh_zret X h hr hlocks rfl hq dX7_takesName_43
  · have hq := hq.2 c1
    refine lv_iload_n hx hb1 dX7_takesName_4 rfl (lv_at hl 1 rfl) ?_
    refine lv_bipush (v := (8 : Int32)) hx hb1 dX7_takesName_5 (by decide) ?_
    refine lv_icmp_ge (tgt := 42) hx hb1 dX7_takesName_7 (by decide) (fun c2 => ?_) (fun c2 => ?_)
    · have hq := hq.1 c2
      refine lv_iconst (v := (0 : Int32)) hx hb1 dX7_takesName_42 (by decide) ?_
      exact hh_zret X h hr hlocks rfl hq dX7_takesName_43
    · have hq := hq.2 c2
      refine lv_aload_n hx hb1 dX7_takesName_10 rfl (lv_at hl 0 rfl) ?_
      refine hh_getr X h fc_1_1 in_X7_takesName_X7 kc_1 (by decide) (List.mem_of_getElem? (i := 1) rfl) rfl dX7_takesName_11 ?_
      refine hh_geti X h (q := 192) fc_3_0 rfl in_X7_takesName_X6 kc_3 (by decide) (List.mem_of_getElem? (i := 2) rfl) rfl dX7_takesName_14 ?_
      refine lv_bipush (v := (8 : Int32)) hx hb1 dX7_takesName_17 (by decide) ?_
      refine lv_icmp_ge (tgt := 42) hx hb1 dX7_takesName_19 (by decide) (fun c3 => ?_) (fun c3 => ?_)
      · have hq := hq.1 c3
        refine lv_iconst (v := (0 : Int32)) hx hb1 dX7_takesName_42 (by decide) ?_
        exact hh_zret X h hr hlocks rfl hq dX7_takesName_43
      · have hq := hq.2 c3
        refine lv_aload_n hx hb1 dX7_takesName_22 rfl (lv_at hl 0 rfl) ?_
        refine hh_getr X h fc_1_1 in_X7_takesName_X7 kc_1 (by decide) (List.mem_of_getElem? (i := 1) rfl) rfl dX7_takesName_23 ?_
        refine lv_iload_n hx hb1 dX7_takesName_26 rfl (lv_at hl 1 rfl) ?_
        refine lv_aload_n hx hb1 dX7_takesName_27 rfl (lv_at hl 0 rfl) ?_
        refine hh_getr X h fc_1_1 in_X7_takesName_X7 kc_1 (by decide) (List.mem_of_getElem? (i := 1) rfl) rfl dX7_takesName_28 ?_
        refine hh_geti X h (q := 192) fc_3_0 rfl in_X7_takesName_X6 kc_3 (by decide) (List.mem_of_getElem? (i := 2) rfl) rfl dX7_takesName_31 ?_
        refine hh_kI h (va_runV (As := [.int x1, .int (hh_I σ 192)]) (rest := []) X.1 (ad_X6_named (D := D) l J x1 (hh_I σ 192) σ _ hq) (cwV 2 X.1.2.2.2.2 gX7_takesName_X6_named rfl rfl rfl nd_X6_named ⟨Nat.le_of_ble_eq_true rfl, Nat.le_of_ble_eq_true rfl⟩) (hh_preV X h fc_3_0 kc_3 [.int x1, .int (hh_I σ 192)]) rfl rfl hl.1 rfl (lv_room (Nat.le_of_ble_eq_true rfl)) dX7_takesName_34 ⟨Nat.le_of_ble_eq_true rfl, Nat.le_of_ble_eq_true rfl⟩) (fun r4 σ5 H locs hq h => ?_)
        refine lv_bipush (v := (-6 : Int32)) hx hb1 dX7_takesName_37 (by decide) ?_
        refine lv_icmp_eq (tgt := 44) hx hb1 dX7_takesName_39 (by decide) (fun c6 => ?_) (fun c6 => ?_)
        · have hq := hq.1 c6
          refine lv_aload_n hx hb1 dX7_takesName_44 rfl (lv_at hl 0 rfl) ?_
          refine lv_aload_n hx hb1 dX7_takesName_45 rfl (lv_at hl 0 rfl) ?_
          refine hh_getr X h fc_1_1 in_X7_takesName_X7 kc_1 (by decide) (List.mem_of_getElem? (i := 1) rfl) rfl dX7_takesName_46 ?_
          refine hh_geti X h (q := 192) fc_3_0 rfl in_X7_takesName_X6 kc_3 (by decide) (List.mem_of_getElem? (i := 2) rfl) rfl dX7_takesName_49 ?_
          refine hh_puti X h (q := 68) hc_n fc_1_4 rfl in_X7_takesName_X7 kc_1 tyX7 tyX7_ok nmX7 (by decide) (List.mem_of_getElem? (i := 3) rfl) rfl rfl rfl rfl dX7_takesName_52 (fun σ7 H locs eσ7 h => ?_)
          have hq := hq σ7 eσ7
          refine lv_aload_n hx hb1 dX7_takesName_55 rfl (lv_at hl 0 rfl) ?_
          refine hh_getr X h fc_1_1 in_X7_takesName_X7 kc_1 (by decide) (List.mem_of_getElem? (i := 1) rfl) rfl dX7_takesName_56 ?_
          refine lv_iload_n hx hb1 dX7_takesName_59 rfl (lv_at hl 1 rfl) ?_
          refine hh_kV h (va_runV (As := [.int x1]) (rest := []) X.1 (ad_X6_add (D := D) l J x1 σ7 _ hq) (cwV 1 X.1.2.2.2.2 gX7_takesName_X6_add rfl rfl rfl nd_X6_add ⟨Nat.le_of_ble_eq_true rfl, Nat.le_of_ble_eq_true rfl⟩) (hh_preV X h fc_3_0 kc_3 [.int x1]) rfl rfl hl.1 rfl (lv_room (Nat.le_of_ble_eq_true rfl)) dX7_takesName_60 ⟨Nat.le_of_ble_eq_true rfl, Nat.le_of_ble_eq_true rfl⟩) (fun σ9 H locs hq h => ?_)
          refine lv_aload_n hx hb1 dX7_takesName_63 rfl (lv_at hl 0 rfl) ?_
          refine lv_iconst (v := (-1 : Int32)) hx hb1 dX7_takesName_64 (by decide) ?_
          refine hh_puti X h (q := 69) hc_n fc_1_5 rfl in_X7_takesName_X7 kc_1 tyX7 tyX7_ok nmX7 (by decide) (List.mem_of_getElem? (i := 4) rfl) rfl rfl rfl rfl dX7_takesName_65 (fun σ10 H locs eσ10 h => ?_)
          have hq := hq σ10 eσ10
          refine lv_aload_n hx hb1 dX7_takesName_68 rfl (lv_at hl 0 rfl) ?_
          refine lv_iconst (v := (0 : Int32)) hx hb1 dX7_takesName_69 (by decide) ?_
          refine hh_puti X h (q := 70) hc_n fc_1_6 rfl in_X7_takesName_X7 kc_1 tyX7 tyX7_ok nmX7 (by decide) (List.mem_of_getElem? (i := 5) rfl) rfl rfl rfl rfl dX7_takesName_70 (fun σ11 H locs eσ11 h => ?_)
          have hq := hq σ11 eσ11
          refine lv_aload_n hx hb1 dX7_takesName_73 rfl (lv_at hl 0 rfl) ?_
          refine lv_iconst (v := (1 : Int32)) hx hb1 dX7_takesName_74 (by decide) ?_
          refine lv_iconst (v := (1 : Int32)) hx hb1 dX7_takesName_75 (by decide) ?_
          refine hh_kI h (va_runV (As := [.int (1 : Int32), .int (1 : Int32)]) (rest := []) X.1 (ad_X7_goesOn (D := D) l J (1 : Int32) (1 : Int32) σ11 _ hq) (cwV 2 X.1.2.2.2.2 gX7_takesName_X7_goesOn rfl rfl rfl nd_X7_goesOn ⟨Nat.le_of_ble_eq_true rfl, Nat.le_of_ble_eq_true rfl⟩) (hh_preV X h fc_1_0 kc_1 [.int (1 : Int32), .int (1 : Int32)]) rfl rfl hl.1 rfl (lv_room (Nat.le_of_ble_eq_true rfl)) dX7_takesName_76 ⟨Nat.le_of_ble_eq_true rfl, Nat.le_of_ble_eq_true rfl⟩) (fun r12 σ13 H locs hq h => ?_)
          obtain ⟨h14, hq⟩ := hq
          exact hh_zret X h hr hlocks h14 hq dX7_takesName_79
        · have hq := hq.2 c6
          refine lv_iconst (v := (0 : Int32)) hx hb1 dX7_takesName_42 (by decide) ?_
          exact hh_zret X h hr hlocks rfl hq dX7_takesName_43
theorem nd_X7_takesNeed : yX7_takesNeed.cls = RX7 ∧ yX7_takesNeed.cls ≠ "java/lang/invoke/MethodHandle" ∧ yX7_takesNeed.cls ≠ "java/lang/invoke/VarHandle" ∧ (parseMethodDescriptor yX7_takesNeed.desc).map (fun d => d.parameters.length) = some 1 := by decide +kernel
abbrev rm_X7_takesNeed : Room := { frames := 1, cells := 0, slots := 0, locals := 23 }
def wp_X7_takesNeed (x1 : Int32) (σ : hh_S) (Q : Int32 → hh_S → Prop) : Prop := (wp_X6_named x1 (hh_I σ 68) σ (fun (r1 : Int32) (σ2 : hh_S) => ((r1 = (-6 : Int32) → (Q (0 : Int32) σ2)) ∧ (¬ r1 = (-6 : Int32) → (((hh_I σ2 69) < x1 → (vp_in (hh_I σ2 68) 8 ∧ (vp_in (hh_I σ2 68) 8 ∧ ∀ σ7 : hh_S, σ7 = hh_sA σ2 17 (hh_I σ2 68) ((hh_rA σ2 17 (hh_I σ2 68)) ||| ((1 : Int32) <<< (r1 &&& 31))) → (∀ σ8 : hh_S, σ8 = hh_uI σ7 69 x1 → (wp_X7_goesOn (1 : Int32) (6 : Int32) σ8 (fun (r9 : Int32) (σ10 : hh_S) => ((narrow .boolean (.int r9) = .int r9) ∧ Q r9 σ10))))))) ∧ (¬ (hh_I σ2 69) < x1 → (Q (0 : Int32) σ2)))))))
theorem in_X7_takesNeed_X7 : ∀ w ∈ u_ws RX7 TX7 7, w ∈ wsX7_takesNeed := fun w h => List.mem_cons_of_mem _ (List.mem_append_left _ (List.mem_append_right _ h))
theorem in_X7_takesNeed_X6 : ∀ w ∈ u_ws RX6 TX6 5, w ∈ wsX7_takesNeed := fun w h => List.mem_cons_of_mem _ (List.mem_append_right _ h)
set_option maxHeartbeats 4000000 in
set_option maxRecDepth 100000 in
theorem ad_X7_takesNeed {D : va_G} (l : Launch) {cy : Nat → ClassId} {ad : Nat → Nat} (J : hh_J hc_Y ad) (x1 : Int32) (σ : hh_S) (Q : Int32 → hh_S → Prop) (hq : wp_X7_takesNeed x1 σ Q) : Met l yX7_takesNeed wsX7_takesNeed rm_X7_takesNeed (va_Pc [.ref (ad 1), .int x1] (hh_B D hh_cl hc_Y cy ad σ)) (va_Qi Q (hh_B D hh_cl hc_Y cy ad) (hh_A hc_Y ad)) 0 0 (hh_A hc_Y ad) := by
  refine Met.ofW (cc := cX7_takesNeed) (maxL := 3) (ret := (some .boolean)) (by decide) rfl ?_
  intro p e s m args below meth c s₁ B hml hv
  obtain ⟨hargs, hP0, hK0⟩ := hv
  have hr := B.returns
  have hlocks := B.notSynchronized
  have X : hh_X p m c cX7_takesNeed 3 s args wsX7_takesNeed RX7 D hh_cl hc_Y cy ad := ⟨⟨B.exec, B.bytes, hml, findClass_of_methodNamed B.named, atoms_spec (ws := wsX7_takesNeed) B.pre⟩, hK0, J⟩
  have hx := X.1.1
  have hb1 := X.1.2.1
  have h : hh_H D hh_cl hc_Y cy ad s.heap σ s.heap [] := ⟨hP0, va_S.rf⟩
  subst hargs
  refine hh_entry (vs := [.ref (ad 1), .int x1]) (Nat.le_of_ble_eq_true rfl) (fun ls hl => ?_)
  have hl : lv_has ls 3 [(0, .ref (ad 1)), (1, .int x1)] := hl
  have hq : wp_X7_takesNeed x1 σ Q := hq
  unfold wp_X7_takesNeed at hq
  refine lv_aload_n hx hb1 dX7_takesNeed_0 rfl (lv_at hl 0 rfl) ?_
  refine hh_getr X h fc_1_1 in_X7_takesNeed_X7 kc_1 (by decide) (List.mem_of_getElem? (i := 1) rfl) rfl dX7_takesNeed_1 ?_
  refine lv_iload_n hx hb1 dX7_takesNeed_4 rfl (lv_at hl 1 rfl) ?_
  refine lv_aload_n hx hb1 dX7_takesNeed_5 rfl (lv_at hl 0 rfl) ?_
  refine hh_geti X h (q := 68) fc_1_4 rfl in_X7_takesNeed_X7 kc_1 (by decide) (List.mem_of_getElem? (i := 2) rfl) rfl dX7_takesNeed_6 ?_
  refine hh_kI h (va_runV (As := [.int x1, .int (hh_I σ 68)]) (rest := []) X.1 (ad_X6_named (D := D) l J x1 (hh_I σ 68) σ _ hq) (cwV 2 X.1.2.2.2.2 gX7_takesNeed_X6_named rfl rfl rfl nd_X6_named ⟨Nat.le_of_ble_eq_true rfl, Nat.le_of_ble_eq_true rfl⟩) (hh_preV X h fc_3_0 kc_3 [.int x1, .int (hh_I σ 68)]) rfl rfl hl.1 rfl (lv_room (Nat.le_of_ble_eq_true rfl)) dX7_takesNeed_9 ⟨Nat.le_of_ble_eq_true rfl, Nat.le_of_ble_eq_true rfl⟩) (fun r1 σ2 H locs hq h => ?_)
  refine lv_istore_n (lv' := [(2, .int r1), (0, .ref (ad 1)), (1, .int x1)]) hx hb1 dX7_takesNeed_12 rfl hl (by decide) rfl (fun ls hl => ?_)
  refine lv_iload_n hx hb1 dX7_takesNeed_13 rfl (lv_at hl 0 rfl) ?_
  refine lv_bipush (v := (-6 : Int32)) hx hb1 dX7_takesNeed_14 (by decide) ?_
  refine lv_icmp_eq (tgt := 27) hx hb1 dX7_takesNeed_16 (by decide) (fun c3 => ?_) (fun c3 => ?_)
  · have hq := hq.1 c3
    refine lv_iconst (v := (0 : Int32)) hx hb1 dX7_takesNeed_27 (by decide) ?_
    exact hh_zret X h hr hlocks rfl hq dX7_takesNeed_28
  · have hq := hq.2 c3
    refine lv_iload_n hx hb1 dX7_takesNeed_19 rfl (lv_at hl 2 rfl) ?_
    refine lv_aload_n hx hb1 dX7_takesNeed_20 rfl (lv_at hl 1 rfl) ?_
    refine hh_geti X h (q := 69) fc_1_5 rfl in_X7_takesNeed_X7 kc_1 (by decide) (List.mem_of_getElem? (i := 3) rfl) rfl dX7_takesNeed_21 ?_
    refine lv_icmp_gt (tgt := 29) hx hb1 dX7_takesNeed_24 (by decide) (fun c4 => ?_) (fun c4 => ?_)
    · have hq := hq.1 c4
      refine lv_aload_n hx hb1 dX7_takesNeed_29 rfl (lv_at hl 1 rfl) ?_
      refine hh_getr X h fc_1_1 in_X7_takesNeed_X7 kc_1 (by decide) (List.mem_of_getElem? (i := 1) rfl) rfl dX7_takesNeed_30 ?_
      refine hh_getr X h fc_3_3 in_X7_takesNeed_X6 kc_3 (by decide) (List.mem_of_getElem? (i := 4) rfl) rfl dX7_takesNeed_33 ?_
      refine lv_aload_n hx hb1 dX7_takesNeed_36 rfl (lv_at hl 1 rfl) ?_
      refine hh_geti X h (q := 68) fc_1_4 rfl in_X7_takesNeed_X7 kc_1 (by decide) (List.mem_of_getElem? (i := 2) rfl) rfl dX7_takesNeed_37 ?_
      refine lv_dup2_11 hx hb1 dX7_takesNeed_40 rfl rfl ?_
      obtain ⟨h5, hq⟩ := hq
      refine hh_ild X h ac_17 h5 dX7_takesNeed_41 ?_
      refine lv_iconst (v := (1 : Int32)) hx hb1 dX7_takesNeed_42 (by decide) ?_
      refine lv_iload_n hx hb1 dX7_takesNeed_43 rfl (lv_at hl 0 rfl) ?_
      refine lv_ishl hx hb1 dX7_takesNeed_44 ?_
      refine lv_ior hx hb1 dX7_takesNeed_45 ?_
      obtain ⟨h6, hq⟩ := hq
      refine hh_ist X h ac_17 h6 dX7_takesNeed_46 (fun σ7 H locs eσ7 h => ?_)
      have hq := hq σ7 eσ7
      refine lv_aload_n hx hb1 dX7_takesNeed_47 rfl (lv_at hl 1 rfl) ?_
      refine lv_iload_n hx hb1 dX7_takesNeed_48 rfl (lv_at hl 2 rfl) ?_
      refine hh_puti X h (q := 69) hc_n fc_1_5 rfl in_X7_takesNeed_X7 kc_1 tyX7 tyX7_ok nmX7 (by decide) (List.mem_of_getElem? (i := 3) rfl) rfl rfl rfl rfl dX7_takesNeed_49 (fun σ8 H locs eσ8 h => ?_)
      have hq := hq σ8 eσ8
      refine lv_aload_n hx hb1 dX7_takesNeed_52 rfl (lv_at hl 1 rfl) ?_
      refine lv_iconst (v := (1 : Int32)) hx hb1 dX7_takesNeed_53 (by decide) ?_
      refine lv_bipush (v := (6 : Int32)) hx hb1 dX7_takesNeed_54 (by decide) ?_
      refine hh_kI h (va_runV (As := [.int (1 : Int32), .int (6 : Int32)]) (rest := []) X.1 (ad_X7_goesOn (D := D) l J (1 : Int32) (6 : Int32) σ8 _ hq) (cwV 2 X.1.2.2.2.2 gX7_takesNeed_X7_goesOn rfl rfl rfl nd_X7_goesOn ⟨Nat.le_of_ble_eq_true rfl, Nat.le_of_ble_eq_true rfl⟩) (hh_preV X h fc_1_0 kc_1 [.int (1 : Int32), .int (6 : Int32)]) rfl rfl hl.1 rfl (lv_room (Nat.le_of_ble_eq_true rfl)) dX7_takesNeed_56 ⟨Nat.le_of_ble_eq_true rfl, Nat.le_of_ble_eq_true rfl⟩) (fun r9 σ10 H locs hq h => ?_)
      obtain ⟨h11, hq⟩ := hq
      exact hh_zret X h hr hlocks h11 hq dX7_takesNeed_59
    · have hq := hq.2 c4
      refine lv_iconst (v := (0 : Int32)) hx hb1 dX7_takesNeed_27 (by decide) ?_
      exact hh_zret X h hr hlocks rfl hq dX7_takesNeed_28
theorem nd_X7_takes : yX7_takes.cls = RX7 ∧ yX7_takes.cls ≠ "java/lang/invoke/MethodHandle" ∧ yX7_takes.cls ≠ "java/lang/invoke/VarHandle" ∧ (parseMethodDescriptor yX7_takes.desc).map (fun d => d.parameters.length) = some 1 := by decide +kernel
abbrev rm_X7_takes : Room := { frames := 2, cells := 0, slots := 0, locals := 45 }
def wp_X7_takes (x1 : Int32) (σ : hh_S) (Q : Int32 → hh_S → Prop) : Prop := (((hh_I σ 67).toInt = 0 → (wp_X7_takesName (x1 - (97 : Int32)) σ (fun (r2 : Int32) (σ3 : hh_S) => ((narrow .boolean (.int r2) = .int r2) ∧ Q r2 σ3)))) ∧ ((hh_I σ 67).toInt = 1 → ((¬ x1 = (58 : Int32) → (wp_X7_goesOn (0 : Int32) (2 : Int32) σ (fun (r7 : Int32) (σ8 : hh_S) => ((narrow .boolean (.int r7) = .int r7) ∧ Q r7 σ8)))) ∧ (x1 = (58 : Int32) → (wp_X7_goesOn (1 : Int32) (2 : Int32) σ (fun (r10 : Int32) (σ11 : hh_S) => ((narrow .boolean (.int r10) = .int r10) ∧ Q r10 σ11)))))) ∧ ((hh_I σ 67).toInt = 2 → ((¬ x1 = (67 : Int32) → ((x1 = (75 : Int32) → (wp_X7_goesOn (1 : Int32) (4 : Int32) σ (fun (r16 : Int32) (σ17 : hh_S) => ((narrow .boolean (.int r16) = .int r16) ∧ Q r16 σ17)))) ∧ (¬ x1 = (75 : Int32) → ((¬ x1 = (79 : Int32) → (wp_X7_goesOn (0 : Int32) (4 : Int32) σ (fun (r20 : Int32) (σ21 : hh_S) => ((narrow .boolean (.int r20) = .int r20) ∧ Q r20 σ21)))) ∧ (x1 = (79 : Int32) → (wp_X7_goesOn (1 : Int32) (4 : Int32) σ (fun (r23 : Int32) (σ24 : hh_S) => ((narrow .boolean (.int r23) = .int r23) ∧ Q r23 σ24)))))))) ∧ (x1 = (67 : Int32) → (wp_X7_goesOn (1 : Int32) (3 : Int32) σ (fun (r26 : Int32) (σ27 : hh_S) => ((narrow .boolean (.int r26) = .int r26) ∧ Q r26 σ27)))))) ∧ ((hh_I σ 67).toInt = 3 → (wp_X7_takesLabels (x1 - (48 : Int32)) σ (fun (r30 : Int32) (σ31 : hh_S) => ((narrow .boolean (.int r30) = .int r30) ∧ Q r30 σ31)))) ∧ ((hh_I σ 67).toInt = 4 → ((¬ x1 = (60 : Int32) → ((¬ x1 = (33 : Int32) → (wp_X7_goesOn (0 : Int32) (7 : Int32) σ (fun (r36 : Int32) (σ37 : hh_S) => ((narrow .boolean (.int r36) = .int r36) ∧ Q r36 σ37)))) ∧ (x1 = (33 : Int32) → (wp_X7_goesOn (1 : Int32) (7 : Int32) σ (fun (r39 : Int32) (σ40 : hh_S) => ((narrow .boolean (.int r39) = .int r39) ∧ Q r39 σ40)))))) ∧ (x1 = (60 : Int32) → (((hh_I σ 68) ≤ 0 → (wp_X7_goesOn (0 : Int32) (5 : Int32) σ (fun (r43 : Int32) (σ44 : hh_S) => ((narrow .boolean (.int r43) = .int r43) ∧ Q r43 σ44)))) ∧ (¬ (hh_I σ 68) ≤ 0 → (wp_X7_goesOn (1 : Int32) (5 : Int32) σ (fun (r46 : Int32) (σ47 : hh_S) => ((narrow .boolean (.int r46) = .int r46) ∧ Q r46 σ47)))))))) ∧ ((hh_I σ 67).toInt = 5 → (wp_X7_takesNeed (x1 - (97 : Int32)) σ (fun (r50 : Int32) (σ51 : hh_S) => ((narrow .boolean (.int r50) = .int r50) ∧ Q r50 σ51)))) ∧ ((hh_I σ 67).toInt = 6 → ((¬ x1 = (33 : Int32) → (wp_X7_takesNeed (x1 - (97 : Int32)) σ (fun (r55 : Int32) (σ56 : hh_S) => ((narrow .boolean (.int r55) = .int r55) ∧ Q r55 σ56)))) ∧ (x1 = (33 : Int32) → (wp_X7_goesOn (1 : Int32) (7 : Int32) σ (fun (r58 : Int32) (σ59 : hh_S) => ((narrow .boolean (.int r58) = .int r58) ∧ Q r58 σ59)))))) ∧ ((hh_I σ 67).toInt = 7 → (wp_X7_takesDigit (x1 - (48 : Int32)) σ (fun (r62 : Int32) (σ63 : hh_S) => ((narrow .boolean (.int r62) = .int r62) ∧ Q r62 σ63)))) ∧ (((hh_I σ 67).toInt < 0 ∨ 7 < (hh_I σ 67).toInt) → ((¬ x1 = (59 : Int32) → (wp_X7_takesDigit (x1 - (48 : Int32)) σ (fun (r67 : Int32) (σ68 : hh_S) => ((narrow .boolean (.int r67) = .int r67) ∧ Q r67 σ68)))) ∧ (x1 = (59 : Int32) → (((8 : Int32) ≤ (hh_I σ 192) → (wp_X7_goesOn (0 : Int32) (0 : Int32) σ (fun (r71 : Int32) (σ72 : hh_S) => ((narrow .boolean (.int r71) = .int r71) ∧ Q r71 σ72)))) ∧ (¬ (8 : Int32) ≤ (hh_I σ 192) → (wp_X7_goesOn (1 : Int32) (0 : Int32) σ (fun (r74 : Int32) (σ75 : hh_S) => ((narrow .boolean (.int r74) = .int r74) ∧ Q r74 σ75)))))))))
theorem in_X7_takes_X7 : ∀ w ∈ u_ws RX7 TX7 7, w ∈ wsX7_takes := fun w h => List.mem_cons_of_mem _ (List.mem_append_left _ (List.mem_append_right _ h))
theorem in_X7_takes_X6 : ∀ w ∈ u_ws RX6 TX6 5, w ∈ wsX7_takes := fun w h => List.mem_cons_of_mem _ (List.mem_append_right _ h)
set_option maxHeartbeats 4000000 in
set_option maxRecDepth 100000 in
theorem ad_X7_takes {D : va_G} (l : Launch) {cy : Nat → ClassId} {ad : Nat → Nat} (J : hh_J hc_Y ad) (x1 : Int32) (σ : hh_S) (Q : Int32 → hh_S → Prop) (hq : wp_X7_takes x1 σ Q) : Met l yX7_takes wsX7_takes rm_X7_takes (va_Pc [.ref (ad 1), .int x1] (hh_B D hh_cl hc_Y cy ad σ)) (va_Qi Q (hh_B D hh_cl hc_Y cy ad) (hh_A hc_Y ad)) 0 0 (hh_A hc_Y ad) := by
  refine Met.ofW (cc := cX7_takes) (maxL := 2) (ret := (some .boolean)) (by decide) rfl ?_
  intro p e s m args below meth c s₁ B hml hv
  obtain ⟨hargs, hP0, hK0⟩ := hv
  have hr := B.returns
  have hlocks := B.notSynchronized
  have X : hh_X p m c cX7_takes 2 s args wsX7_takes RX7 D hh_cl hc_Y cy ad := ⟨⟨B.exec, B.bytes, hml, findClass_of_methodNamed B.named, atoms_spec (ws := wsX7_takes) B.pre⟩, hK0, J⟩
  have hx := X.1.1
  have hb1 := X.1.2.1
  have h : hh_H D hh_cl hc_Y cy ad s.heap σ s.heap [] := ⟨hP0, va_S.rf⟩
  subst hargs
  refine hh_entry (vs := [.ref (ad 1), .int x1]) (Nat.le_of_ble_eq_true rfl) (fun ls hl => ?_)
  have hl : lv_has ls 2 [(0, .ref (ad 1)), (1, .int x1)] := hl
  have hq : wp_X7_takes x1 σ Q := hq
  unfold wp_X7_takes at hq
  refine lv_aload_n hx hb1 dX7_takes_0 rfl (lv_at hl 0 rfl) ?_
  refine hh_geti X h (q := 67) fc_1_3 rfl in_X7_takes_X7 kc_1 (by decide) (List.mem_of_getElem? (i := 1) rfl) rfl dX7_takes_1 ?_
  by_cases c1 : (hh_I σ 67).toInt = 0
  · have hq := hq.1 c1
    refine hh_tabIn X (off := 48) (tgt := 52) 0 dX7_takes_4 c1 (by decide) (by decide) (by decide) (by decide) ?_
    refine lv_aload_n hx hb1 dX7_takes_52 rfl (lv_at hl 0 rfl) ?_
    refine lv_iload_n hx hb1 dX7_takes_53 rfl (lv_at hl 1 rfl) ?_
    refine lv_bipush (v := (97 : Int32)) hx hb1 dX7_takes_54 (by decide) ?_
    refine lv_isub hx hb1 dX7_takes_56 ?_
    refine hh_kI h (va_runV (As := [.int (x1 - (97 : Int32))]) (rest := []) X.1 (ad_X7_takesName (D := D) l J (x1 - (97 : Int32)) σ _ hq) (cwV 1 X.1.2.2.2.2 gX7_takes_X7_takesName rfl rfl rfl nd_X7_takesName ⟨Nat.le_of_ble_eq_true rfl, Nat.le_of_ble_eq_true rfl⟩) (hh_preV X h fc_1_0 kc_1 [.int (x1 - (97 : Int32))]) rfl rfl hl.1 rfl (lv_room (Nat.le_of_ble_eq_true rfl)) dX7_takes_57 ⟨Nat.le_of_ble_eq_true rfl, Nat.le_of_ble_eq_true rfl⟩) (fun r2 σ3 H locs hq h => ?_)
    obtain ⟨h4, hq⟩ := hq
    exact hh_zret X h hr hlocks h4 hq dX7_takes_60
  have hq := hq.2
  by_cases c5 : (hh_I σ 67).toInt = 1
  · have hq := hq.1 c5
    refine hh_tabIn X (off := 57) (tgt := 61) 1 dX7_takes_4 c5 (by decide) (by decide) (by decide) (by decide) ?_
    refine lv_aload_n hx hb1 dX7_takes_61 rfl (lv_at hl 0 rfl) ?_
    refine lv_iload_n hx hb1 dX7_takes_62 rfl (lv_at hl 1 rfl) ?_
    refine lv_bipush (v := (58 : Int32)) hx hb1 dX7_takes_63 (by decide) ?_
    refine lv_icmp_ne (tgt := 72) hx hb1 dX7_takes_65 (by decide) (fun c6 => ?_) (fun c6 => ?_)
    · have hq := hq.1 c6
      refine lv_iconst (v := (0 : Int32)) hx hb1 dX7_takes_72 (by decide) ?_
      refine lv_iconst (v := (2 : Int32)) hx hb1 dX7_takes_73 (by decide) ?_
      refine hh_kI h (va_runV (As := [.int (0 : Int32), .int (2 : Int32)]) (rest := []) X.1 (ad_X7_goesOn (D := D) l J (0 : Int32) (2 : Int32) σ _ hq) (cwV 2 X.1.2.2.2.2 gX7_takes_X7_goesOn rfl rfl rfl nd_X7_goesOn ⟨Nat.le_of_ble_eq_true rfl, Nat.le_of_ble_eq_true rfl⟩) (hh_preV X h fc_1_0 kc_1 [.int (0 : Int32), .int (2 : Int32)]) rfl rfl hl.1 rfl (lv_room (Nat.le_of_ble_eq_true rfl)) dX7_takes_74 ⟨Nat.le_of_ble_eq_true rfl, Nat.le_of_ble_eq_true rfl⟩) (fun r7 σ8 H locs hq h => ?_)
      obtain ⟨h9, hq⟩ := hq
      exact hh_zret X h hr hlocks h9 hq dX7_takes_77
    · have hq := hq.2 c6
      refine lv_iconst (v := (1 : Int32)) hx hb1 dX7_takes_68 (by decide) ?_
      refine lv_goto (tgt := 73) hx hb1 dX7_takes_69 (by decide) ?_
      refine lv_iconst (v := (2 : Int32)) hx hb1 dX7_takes_73 (by decide) ?_
      refine hh_kI h (va_runV (As := [.int (1 : Int32), .int (2 : Int32)]) (rest := []) X.1 (ad_X7_goesOn (D := D) l J (1 : Int32) (2 : Int32) σ _ hq) (cwV 2 X.1.2.2.2.2 gX7_takes_X7_goesOn rfl rfl rfl nd_X7_goesOn ⟨Nat.le_of_ble_eq_true rfl, Nat.le_of_ble_eq_true rfl⟩) (hh_preV X h fc_1_0 kc_1 [.int (1 : Int32), .int (2 : Int32)]) rfl rfl hl.1 rfl (lv_room (Nat.le_of_ble_eq_true rfl)) dX7_takes_74 ⟨Nat.le_of_ble_eq_true rfl, Nat.le_of_ble_eq_true rfl⟩) (fun r10 σ11 H locs hq h => ?_)
      obtain ⟨h12, hq⟩ := hq
      exact hh_zret X h hr hlocks h12 hq dX7_takes_77
  have hq := hq.2
  by_cases c13 : (hh_I σ 67).toInt = 2
  · have hq := hq.1 c13
    refine hh_tabIn X (off := 74) (tgt := 78) 2 dX7_takes_4 c13 (by decide) (by decide) (by decide) (by decide) ?_
    refine lv_iload_n hx hb1 dX7_takes_78 rfl (lv_at hl 1 rfl) ?_
    refine lv_bipush (v := (67 : Int32)) hx hb1 dX7_takes_79 (by decide) ?_
    refine lv_icmp_ne (tgt := 93) hx hb1 dX7_takes_81 (by decide) (fun c14 => ?_) (fun c14 => ?_)
    · have hq := hq.1 c14
      refine lv_aload_n hx hb1 dX7_takes_93 rfl (lv_at hl 0 rfl) ?_
      refine lv_iload_n hx hb1 dX7_takes_94 rfl (lv_at hl 1 rfl) ?_
      refine lv_bipush (v := (75 : Int32)) hx hb1 dX7_takes_95 (by decide) ?_
      refine lv_icmp_eq (tgt := 106) hx hb1 dX7_takes_97 (by decide) (fun c15 => ?_) (fun c15 => ?_)
      · have hq := hq.1 c15
        refine lv_iconst (v := (1 : Int32)) hx hb1 dX7_takes_106 (by decide) ?_
        refine lv_goto (tgt := 111) hx hb1 dX7_takes_107 (by decide) ?_
        refine lv_iconst (v := (4 : Int32)) hx hb1 dX7_takes_111 (by decide) ?_
        refine hh_kI h (va_runV (As := [.int (1 : Int32), .int (4 : Int32)]) (rest := []) X.1 (ad_X7_goesOn (D := D) l J (1 : Int32) (4 : Int32) σ _ hq) (cwV 2 X.1.2.2.2.2 gX7_takes_X7_goesOn rfl rfl rfl nd_X7_goesOn ⟨Nat.le_of_ble_eq_true rfl, Nat.le_of_ble_eq_true rfl⟩) (hh_preV X h fc_1_0 kc_1 [.int (1 : Int32), .int (4 : Int32)]) rfl rfl hl.1 rfl (lv_room (Nat.le_of_ble_eq_true rfl)) dX7_takes_112 ⟨Nat.le_of_ble_eq_true rfl, Nat.le_of_ble_eq_true rfl⟩) (fun r16 σ17 H locs hq h => ?_)
        obtain ⟨h18, hq⟩ := hq
        exact hh_zret X h hr hlocks h18 hq dX7_takes_115
      · have hq := hq.2 c15
        refine lv_iload_n hx hb1 dX7_takes_100 rfl (lv_at hl 1 rfl) ?_
        refine lv_bipush (v := (79 : Int32)) hx hb1 dX7_takes_101 (by decide) ?_
        refine lv_icmp_ne (tgt := 110) hx hb1 dX7_takes_103 (by decide) (fun c19 => ?_) (fun c19 => ?_)
        · have hq := hq.1 c19
          refine lv_iconst (v := (0 : Int32)) hx hb1 dX7_takes_110 (by decide) ?_
          refine lv_iconst (v := (4 : Int32)) hx hb1 dX7_takes_111 (by decide) ?_
          refine hh_kI h (va_runV (As := [.int (0 : Int32), .int (4 : Int32)]) (rest := []) X.1 (ad_X7_goesOn (D := D) l J (0 : Int32) (4 : Int32) σ _ hq) (cwV 2 X.1.2.2.2.2 gX7_takes_X7_goesOn rfl rfl rfl nd_X7_goesOn ⟨Nat.le_of_ble_eq_true rfl, Nat.le_of_ble_eq_true rfl⟩) (hh_preV X h fc_1_0 kc_1 [.int (0 : Int32), .int (4 : Int32)]) rfl rfl hl.1 rfl (lv_room (Nat.le_of_ble_eq_true rfl)) dX7_takes_112 ⟨Nat.le_of_ble_eq_true rfl, Nat.le_of_ble_eq_true rfl⟩) (fun r20 σ21 H locs hq h => ?_)
          obtain ⟨h22, hq⟩ := hq
          exact hh_zret X h hr hlocks h22 hq dX7_takes_115
        · have hq := hq.2 c19
          refine lv_iconst (v := (1 : Int32)) hx hb1 dX7_takes_106 (by decide) ?_
          refine lv_goto (tgt := 111) hx hb1 dX7_takes_107 (by decide) ?_
          refine lv_iconst (v := (4 : Int32)) hx hb1 dX7_takes_111 (by decide) ?_
          refine hh_kI h (va_runV (As := [.int (1 : Int32), .int (4 : Int32)]) (rest := []) X.1 (ad_X7_goesOn (D := D) l J (1 : Int32) (4 : Int32) σ _ hq) (cwV 2 X.1.2.2.2.2 gX7_takes_X7_goesOn rfl rfl rfl nd_X7_goesOn ⟨Nat.le_of_ble_eq_true rfl, Nat.le_of_ble_eq_true rfl⟩) (hh_preV X h fc_1_0 kc_1 [.int (1 : Int32), .int (4 : Int32)]) rfl rfl hl.1 rfl (lv_room (Nat.le_of_ble_eq_true rfl)) dX7_takes_112 ⟨Nat.le_of_ble_eq_true rfl, Nat.le_of_ble_eq_true rfl⟩) (fun r23 σ24 H locs hq h => ?_)
          obtain ⟨h25, hq⟩ := hq
          exact hh_zret X h hr hlocks h25 hq dX7_takes_115
    · have hq := hq.2 c14
      refine lv_aload_n hx hb1 dX7_takes_84 rfl (lv_at hl 0 rfl) ?_
      refine lv_iconst (v := (1 : Int32)) hx hb1 dX7_takes_85 (by decide) ?_
      refine lv_iconst (v := (3 : Int32)) hx hb1 dX7_takes_86 (by decide) ?_
      refine hh_kI h (va_runV (As := [.int (1 : Int32), .int (3 : Int32)]) (rest := []) X.1 (ad_X7_goesOn (D := D) l J (1 : Int32) (3 : Int32) σ _ hq) (cwV 2 X.1.2.2.2.2 gX7_takes_X7_goesOn rfl rfl rfl nd_X7_goesOn ⟨Nat.le_of_ble_eq_true rfl, Nat.le_of_ble_eq_true rfl⟩) (hh_preV X h fc_1_0 kc_1 [.int (1 : Int32), .int (3 : Int32)]) rfl rfl hl.1 rfl (lv_room (Nat.le_of_ble_eq_true rfl)) dX7_takes_87 ⟨Nat.le_of_ble_eq_true rfl, Nat.le_of_ble_eq_true rfl⟩) (fun r26 σ27 H locs hq h => ?_)
      refine lv_goto (tgt := 115) hx hb1 dX7_takes_90 (by decide) ?_
      obtain ⟨h28, hq⟩ := hq
      exact hh_zret X h hr hlocks h28 hq dX7_takes_115
  have hq := hq.2
  by_cases c29 : (hh_I σ 67).toInt = 3
  · have hq := hq.1 c29
    refine hh_tabIn X (off := 112) (tgt := 116) 3 dX7_takes_4 c29 (by decide) (by decide) (by decide) (by decide) ?_
    refine lv_aload_n hx hb1 dX7_takes_116 rfl (lv_at hl 0 rfl) ?_
    refine lv_iload_n hx hb1 dX7_takes_117 rfl (lv_at hl 1 rfl) ?_
    refine lv_bipush (v := (48 : Int32)) hx hb1 dX7_takes_118 (by decide) ?_
    refine lv_isub hx hb1 dX7_takes_120 ?_
    refine hh_kI h (va_runV (As := [.int (x1 - (48 : Int32))]) (rest := []) X.1 (ad_X7_takesLabels (D := D) l J (x1 - (48 : Int32)) σ _ hq) (cwV 1 X.1.2.2.2.2 gX7_takes_X7_takesLabels rfl rfl rfl nd_X7_takesLabels ⟨Nat.le_of_ble_eq_true rfl, Nat.le_of_ble_eq_true rfl⟩) (hh_preV X h fc_1_0 kc_1 [.int (x1 - (48 : Int32))]) rfl rfl hl.1 rfl (lv_room (Nat.le_of_ble_eq_true rfl)) dX7_takes_121 ⟨Nat.le_of_ble_eq_true rfl, Nat.le_of_ble_eq_true rfl⟩) (fun r30 σ31 H locs hq h => ?_)
    obtain ⟨h32, hq⟩ := hq
    exact hh_zret X h hr hlocks h32 hq dX7_takes_124
  have hq := hq.2
  by_cases c33 : (hh_I σ 67).toInt = 4
  · have hq := hq.1 c33
    refine hh_tabIn X (off := 121) (tgt := 125) 4 dX7_takes_4 c33 (by decide) (by decide) (by decide) (by decide) ?_
    refine lv_iload_n hx hb1 dX7_takes_125 rfl (lv_at hl 1 rfl) ?_
    refine lv_bipush (v := (60 : Int32)) hx hb1 dX7_takes_126 (by decide) ?_
    refine lv_icmp_ne (tgt := 151) hx hb1 dX7_takes_128 (by decide) (fun c34 => ?_) (fun c34 => ?_)
    · have hq := hq.1 c34
      refine lv_aload_n hx hb1 dX7_takes_151 rfl (lv_at hl 0 rfl) ?_
      refine lv_iload_n hx hb1 dX7_takes_152 rfl (lv_at hl 1 rfl) ?_
      refine lv_bipush (v := (33 : Int32)) hx hb1 dX7_takes_153 (by decide) ?_
      refine lv_icmp_ne (tgt := 162) hx hb1 dX7_takes_155 (by decide) (fun c35 => ?_) (fun c35 => ?_)
      · have hq := hq.1 c35
        refine lv_iconst (v := (0 : Int32)) hx hb1 dX7_takes_162 (by decide) ?_
        refine lv_bipush (v := (7 : Int32)) hx hb1 dX7_takes_163 (by decide) ?_
        refine hh_kI h (va_runV (As := [.int (0 : Int32), .int (7 : Int32)]) (rest := []) X.1 (ad_X7_goesOn (D := D) l J (0 : Int32) (7 : Int32) σ _ hq) (cwV 2 X.1.2.2.2.2 gX7_takes_X7_goesOn rfl rfl rfl nd_X7_goesOn ⟨Nat.le_of_ble_eq_true rfl, Nat.le_of_ble_eq_true rfl⟩) (hh_preV X h fc_1_0 kc_1 [.int (0 : Int32), .int (7 : Int32)]) rfl rfl hl.1 rfl (lv_room (Nat.le_of_ble_eq_true rfl)) dX7_takes_165 ⟨Nat.le_of_ble_eq_true rfl, Nat.le_of_ble_eq_true rfl⟩) (fun r36 σ37 H locs hq h => ?_)
        obtain ⟨h38, hq⟩ := hq
        exact hh_zret X h hr hlocks h38 hq dX7_takes_168
      · have hq := hq.2 c35
        refine lv_iconst (v := (1 : Int32)) hx hb1 dX7_takes_158 (by decide) ?_
        refine lv_goto (tgt := 163) hx hb1 dX7_takes_159 (by decide) ?_
        refine lv_bipush (v := (7 : Int32)) hx hb1 dX7_takes_163 (by decide) ?_
        refine hh_kI h (va_runV (As := [.int (1 : Int32), .int (7 : Int32)]) (rest := []) X.1 (ad_X7_goesOn (D := D) l J (1 : Int32) (7 : Int32) σ _ hq) (cwV 2 X.1.2.2.2.2 gX7_takes_X7_goesOn rfl rfl rfl nd_X7_goesOn ⟨Nat.le_of_ble_eq_true rfl, Nat.le_of_ble_eq_true rfl⟩) (hh_preV X h fc_1_0 kc_1 [.int (1 : Int32), .int (7 : Int32)]) rfl rfl hl.1 rfl (lv_room (Nat.le_of_ble_eq_true rfl)) dX7_takes_165 ⟨Nat.le_of_ble_eq_true rfl, Nat.le_of_ble_eq_true rfl⟩) (fun r39 σ40 H locs hq h => ?_)
        obtain ⟨h41, hq⟩ := hq
        exact hh_zret X h hr hlocks h41 hq dX7_takes_168
    · have hq := hq.2 c34
      refine lv_aload_n hx hb1 dX7_takes_131 rfl (lv_at hl 0 rfl) ?_
      refine lv_aload_n hx hb1 dX7_takes_132 rfl (lv_at hl 0 rfl) ?_
      refine hh_geti X h (q := 68) fc_1_4 rfl in_X7_takes_X7 kc_1 (by decide) (List.mem_of_getElem? (i := 2) rfl) rfl dX7_takes_133 ?_
      refine lv_if_le (tgt := 143) hx hb1 dX7_takes_136 (by decide) (fun c42 => ?_) (fun c42 => ?_)
      · have hq := hq.1 c42
        refine lv_iconst (v := (0 : Int32)) hx hb1 dX7_takes_143 (by decide) ?_
        refine lv_iconst (v := (5 : Int32)) hx hb1 dX7_takes_144 (by decide) ?_
        refine hh_kI h (va_runV (As := [.int (0 : Int32), .int (5 : Int32)]) (rest := []) X.1 (ad_X7_goesOn (D := D) l J (0 : Int32) (5 : Int32) σ _ hq) (cwV 2 X.1.2.2.2.2 gX7_takes_X7_goesOn rfl rfl rfl nd_X7_goesOn ⟨Nat.le_of_ble_eq_true rfl, Nat.le_of_ble_eq_true rfl⟩) (hh_preV X h fc_1_0 kc_1 [.int (0 : Int32), .int (5 : Int32)]) rfl rfl hl.1 rfl (lv_room (Nat.le_of_ble_eq_true rfl)) dX7_takes_145 ⟨Nat.le_of_ble_eq_true rfl, Nat.le_of_ble_eq_true rfl⟩) (fun r43 σ44 H locs hq h => ?_)
        refine lv_goto (tgt := 168) hx hb1 dX7_takes_148 (by decide) ?_
        obtain ⟨h45, hq⟩ := hq
        exact hh_zret X h hr hlocks h45 hq dX7_takes_168
      · have hq := hq.2 c42
        refine lv_iconst (v := (1 : Int32)) hx hb1 dX7_takes_139 (by decide) ?_
        refine lv_goto (tgt := 144) hx hb1 dX7_takes_140 (by decide) ?_
        refine lv_iconst (v := (5 : Int32)) hx hb1 dX7_takes_144 (by decide) ?_
        refine hh_kI h (va_runV (As := [.int (1 : Int32), .int (5 : Int32)]) (rest := []) X.1 (ad_X7_goesOn (D := D) l J (1 : Int32) (5 : Int32) σ _ hq) (cwV 2 X.1.2.2.2.2 gX7_takes_X7_goesOn rfl rfl rfl nd_X7_goesOn ⟨Nat.le_of_ble_eq_true rfl, Nat.le_of_ble_eq_true rfl⟩) (hh_preV X h fc_1_0 kc_1 [.int (1 : Int32), .int (5 : Int32)]) rfl rfl hl.1 rfl (lv_room (Nat.le_of_ble_eq_true rfl)) dX7_takes_145 ⟨Nat.le_of_ble_eq_true rfl, Nat.le_of_ble_eq_true rfl⟩) (fun r46 σ47 H locs hq h => ?_)
        refine lv_goto (tgt := 168) hx hb1 dX7_takes_148 (by decide) ?_
        obtain ⟨h48, hq⟩ := hq
        exact hh_zret X h hr hlocks h48 hq dX7_takes_168
  have hq := hq.2
  by_cases c49 : (hh_I σ 67).toInt = 5
  · have hq := hq.1 c49
    refine hh_tabIn X (off := 165) (tgt := 169) 5 dX7_takes_4 c49 (by decide) (by decide) (by decide) (by decide) ?_
    refine lv_aload_n hx hb1 dX7_takes_169 rfl (lv_at hl 0 rfl) ?_
    refine lv_iload_n hx hb1 dX7_takes_170 rfl (lv_at hl 1 rfl) ?_
    refine lv_bipush (v := (97 : Int32)) hx hb1 dX7_takes_171 (by decide) ?_
    refine lv_isub hx hb1 dX7_takes_173 ?_
    refine hh_kI h (va_runV (As := [.int (x1 - (97 : Int32))]) (rest := []) X.1 (ad_X7_takesNeed (D := D) l J (x1 - (97 : Int32)) σ _ hq) (cwV 1 X.1.2.2.2.2 gX7_takes_X7_takesNeed rfl rfl rfl nd_X7_takesNeed ⟨Nat.le_of_ble_eq_true rfl, Nat.le_of_ble_eq_true rfl⟩) (hh_preV X h fc_1_0 kc_1 [.int (x1 - (97 : Int32))]) rfl rfl hl.1 rfl (lv_room (Nat.le_of_ble_eq_true rfl)) dX7_takes_174 ⟨Nat.le_of_ble_eq_true rfl, Nat.le_of_ble_eq_true rfl⟩) (fun r50 σ51 H locs hq h => ?_)
    obtain ⟨h52, hq⟩ := hq
    exact hh_zret X h hr hlocks h52 hq dX7_takes_177
  have hq := hq.2
  by_cases c53 : (hh_I σ 67).toInt = 6
  · have hq := hq.1 c53
    refine hh_tabIn X (off := 174) (tgt := 178) 6 dX7_takes_4 c53 (by decide) (by decide) (by decide) (by decide) ?_
    refine lv_iload_n hx hb1 dX7_takes_178 rfl (lv_at hl 1 rfl) ?_
    refine lv_bipush (v := (33 : Int32)) hx hb1 dX7_takes_179 (by decide) ?_
    refine lv_icmp_ne (tgt := 194) hx hb1 dX7_takes_181 (by decide) (fun c54 => ?_) (fun c54 => ?_)
    · have hq := hq.1 c54
      refine lv_aload_n hx hb1 dX7_takes_194 rfl (lv_at hl 0 rfl) ?_
      refine lv_iload_n hx hb1 dX7_takes_195 rfl (lv_at hl 1 rfl) ?_
      refine lv_bipush (v := (97 : Int32)) hx hb1 dX7_takes_196 (by decide) ?_
      refine lv_isub hx hb1 dX7_takes_198 ?_
      refine hh_kI h (va_runV (As := [.int (x1 - (97 : Int32))]) (rest := []) X.1 (ad_X7_takesNeed (D := D) l J (x1 - (97 : Int32)) σ _ hq) (cwV 1 X.1.2.2.2.2 gX7_takes_X7_takesNeed rfl rfl rfl nd_X7_takesNeed ⟨Nat.le_of_ble_eq_true rfl, Nat.le_of_ble_eq_true rfl⟩) (hh_preV X h fc_1_0 kc_1 [.int (x1 - (97 : Int32))]) rfl rfl hl.1 rfl (lv_room (Nat.le_of_ble_eq_true rfl)) dX7_takes_199 ⟨Nat.le_of_ble_eq_true rfl, Nat.le_of_ble_eq_true rfl⟩) (fun r55 σ56 H locs hq h => ?_)
      obtain ⟨h57, hq⟩ := hq
      exact hh_zret X h hr hlocks h57 hq dX7_takes_202
    · have hq := hq.2 c54
      refine lv_aload_n hx hb1 dX7_takes_184 rfl (lv_at hl 0 rfl) ?_
      refine lv_iconst (v := (1 : Int32)) hx hb1 dX7_takes_185 (by decide) ?_
      refine lv_bipush (v := (7 : Int32)) hx hb1 dX7_takes_186 (by decide) ?_
      refine hh_kI h (va_runV (As := [.int (1 : Int32), .int (7 : Int32)]) (rest := []) X.1 (ad_X7_goesOn (D := D) l J (1 : Int32) (7 : Int32) σ _ hq) (cwV 2 X.1.2.2.2.2 gX7_takes_X7_goesOn rfl rfl rfl nd_X7_goesOn ⟨Nat.le_of_ble_eq_true rfl, Nat.le_of_ble_eq_true rfl⟩) (hh_preV X h fc_1_0 kc_1 [.int (1 : Int32), .int (7 : Int32)]) rfl rfl hl.1 rfl (lv_room (Nat.le_of_ble_eq_true rfl)) dX7_takes_188 ⟨Nat.le_of_ble_eq_true rfl, Nat.le_of_ble_eq_true rfl⟩) (fun r58 σ59 H locs hq h => ?_)
      refine lv_goto (tgt := 202) hx hb1 dX7_takes_191 (by decide) ?_
      obtain ⟨h60, hq⟩ := hq
      exact hh_zret X h hr hlocks h60 hq dX7_takes_202
  have hq := hq.2
  by_cases c61 : (hh_I σ 67).toInt = 7
  · have hq := hq.1 c61
    refine hh_tabIn X (off := 199) (tgt := 203) 7 dX7_takes_4 c61 (by decide) (by decide) (by decide) (by decide) ?_
    refine lv_aload_n hx hb1 dX7_takes_203 rfl (lv_at hl 0 rfl) ?_
    refine lv_iload_n hx hb1 dX7_takes_204 rfl (lv_at hl 1 rfl) ?_
    refine lv_bipush (v := (48 : Int32)) hx hb1 dX7_takes_205 (by decide) ?_
    refine lv_isub hx hb1 dX7_takes_207 ?_
    refine hh_kI h (va_runV (As := [.int (x1 - (48 : Int32))]) (rest := []) X.1 (ad_X7_takesDigit (D := D) l J (x1 - (48 : Int32)) σ _ hq) (cwV 1 X.1.2.2.2.2 gX7_takes_X7_takesDigit rfl rfl rfl nd_X7_takesDigit ⟨Nat.le_of_ble_eq_true rfl, Nat.le_of_ble_eq_true rfl⟩) (hh_preV X h fc_1_0 kc_1 [.int (x1 - (48 : Int32))]) rfl rfl hl.1 rfl (lv_room (Nat.le_of_ble_eq_true rfl)) dX7_takes_208 ⟨Nat.le_of_ble_eq_true rfl, Nat.le_of_ble_eq_true rfl⟩) (fun r62 σ63 H locs hq h => ?_)
    obtain ⟨h64, hq⟩ := hq
    exact hh_zret X h hr hlocks h64 hq dX7_takes_211
  have hq := hq.2
  have c65 := hh_out7 c1 c5 c13 c29 c33 c49 c53 c61
  have hq := hq c65
  refine hh_tabOut X (tgt := 212) dX7_takes_4 c65 (by decide) ?_
  refine lv_iload_n hx hb1 dX7_takes_212 rfl (lv_at hl 1 rfl) ?_
  refine lv_bipush (v := (59 : Int32)) hx hb1 dX7_takes_213 (by decide) ?_
  refine lv_icmp_ne (tgt := 243) hx hb1 dX7_takes_215 (by decide) (fun c66 => ?_) (fun c66 => ?_)
  · have hq := hq.1 c66
    refine lv_aload_n hx hb1 dX7_takes_243 rfl (lv_at hl 0 rfl) ?_
    refine lv_iload_n hx hb1 dX7_takes_244 rfl (lv_at hl 1 rfl) ?_
    refine lv_bipush (v := (48 : Int32)) hx hb1 dX7_takes_245 (by decide) ?_
    refine lv_isub hx hb1 dX7_takes_247 ?_
    refine hh_kI h (va_runV (As := [.int (x1 - (48 : Int32))]) (rest := []) X.1 (ad_X7_takesDigit (D := D) l J (x1 - (48 : Int32)) σ _ hq) (cwV 1 X.1.2.2.2.2 gX7_takes_X7_takesDigit rfl rfl rfl nd_X7_takesDigit ⟨Nat.le_of_ble_eq_true rfl, Nat.le_of_ble_eq_true rfl⟩) (hh_preV X h fc_1_0 kc_1 [.int (x1 - (48 : Int32))]) rfl rfl hl.1 rfl (lv_room (Nat.le_of_ble_eq_true rfl)) dX7_takes_248 ⟨Nat.le_of_ble_eq_true rfl, Nat.le_of_ble_eq_true rfl⟩) (fun r67 σ68 H locs hq h => ?_)
    obtain ⟨h69, hq⟩ := hq
    exact hh_zret X h hr hlocks h69 hq dX7_takes_251
  · have hq := hq.2 c66
    refine lv_aload_n hx hb1 dX7_takes_218 rfl (lv_at hl 0 rfl) ?_
    refine lv_aload_n hx hb1 dX7_takes_219 rfl (lv_at hl 0 rfl) ?_
    refine hh_getr X h fc_1_1 in_X7_takes_X7 kc_1 (by decide) (List.mem_of_getElem? (i := 3) rfl) rfl dX7_takes_220 ?_
    refine hh_geti X h (q := 192) fc_3_0 rfl in_X7_takes_X6 kc_3 (by decide) (List.mem_of_getElem? (i := 4) rfl) rfl dX7_takes_223 ?_
    refine lv_bipush (v := (8 : Int32)) hx hb1 dX7_takes_226 (by decide) ?_
    refine lv_icmp_ge (tgt := 235) hx hb1 dX7_takes_228 (by decide) (fun c70 => ?_) (fun c70 => ?_)
    · have hq := hq.1 c70
      refine lv_iconst (v := (0 : Int32)) hx hb1 dX7_takes_235 (by decide) ?_
      refine lv_iconst (v := (0 : Int32)) hx hb1 dX7_takes_236 (by decide) ?_
      refine hh_kI h (va_runV (As := [.int (0 : Int32), .int (0 : Int32)]) (rest := []) X.1 (ad_X7_goesOn (D := D) l J (0 : Int32) (0 : Int32) σ _ hq) (cwV 2 X.1.2.2.2.2 gX7_takes_X7_goesOn rfl rfl rfl nd_X7_goesOn ⟨Nat.le_of_ble_eq_true rfl, Nat.le_of_ble_eq_true rfl⟩) (hh_preV X h fc_1_0 kc_1 [.int (0 : Int32), .int (0 : Int32)]) rfl rfl hl.1 rfl (lv_room (Nat.le_of_ble_eq_true rfl)) dX7_takes_237 ⟨Nat.le_of_ble_eq_true rfl, Nat.le_of_ble_eq_true rfl⟩) (fun r71 σ72 H locs hq h => ?_)
      refine lv_goto (tgt := 251) hx hb1 dX7_takes_240 (by decide) ?_
      obtain ⟨h73, hq⟩ := hq
      exact hh_zret X h hr hlocks h73 hq dX7_takes_251
    · have hq := hq.2 c70
      refine lv_iconst (v := (1 : Int32)) hx hb1 dX7_takes_231 (by decide) ?_
      refine lv_goto (tgt := 236) hx hb1 dX7_takes_232 (by decide) ?_
      refine lv_iconst (v := (0 : Int32)) hx hb1 dX7_takes_236 (by decide) ?_
      refine hh_kI h (va_runV (As := [.int (1 : Int32), .int (0 : Int32)]) (rest := []) X.1 (ad_X7_goesOn (D := D) l J (1 : Int32) (0 : Int32) σ _ hq) (cwV 2 X.1.2.2.2.2 gX7_takes_X7_goesOn rfl rfl rfl nd_X7_goesOn ⟨Nat.le_of_ble_eq_true rfl, Nat.le_of_ble_eq_true rfl⟩) (hh_preV X h fc_1_0 kc_1 [.int (1 : Int32), .int (0 : Int32)]) rfl rfl hl.1 rfl (lv_room (Nat.le_of_ble_eq_true rfl)) dX7_takes_237 ⟨Nat.le_of_ble_eq_true rfl, Nat.le_of_ble_eq_true rfl⟩) (fun r74 σ75 H locs hq h => ?_)
      refine lv_goto (tgt := 251) hx hb1 dX7_takes_240 (by decide) ?_
      obtain ⟨h76, hq⟩ := hq
      exact hh_zret X h hr hlocks h76 hq dX7_takes_251
theorem nd_X7_read : yX7_read.cls = RX7 ∧ yX7_read.cls ≠ "java/lang/invoke/MethodHandle" ∧ yX7_read.cls ≠ "java/lang/invoke/VarHandle" ∧ (parseMethodDescriptor yX7_read.desc).map (fun d => d.parameters.length) = some 0 := by decide +kernel
abbrev rm_X7_read : Room := { frames := 3, cells := 0, slots := 0, locals := 66 }
def wq_X7_read_15 (Q : Int32 → hh_S → Prop) (K15 : Int32 → hh_S → Prop) (x1 : Int32) (σ : hh_S) : Prop := (((hh_I σ 64) ≤ x1 → ((¬ (hh_I σ 67) = (8 : Int32) → (Q (hh_I σ 64) σ)) ∧ ((hh_I σ 67) = (8 : Int32) → (Q (-6 : Int32) σ)))) ∧ (¬ (hh_I σ 64) ≤ x1 → (vp_in x1 60 ∧ (wp_X7_takes (hh_rA σ 19 x1) σ (fun (r4 : Int32) (σ5 : hh_S) => ((¬ r4 = 0 → (K15 (x1 + (1 : Int32)) σ5)) ∧ (r4 = 0 → (Q x1 σ5))))))))
def wp_X7_read (σ : hh_S) (Q : Int32 → hh_S → Prop) : Prop := (∀ σ7 : hh_S, σ7 = hh_uI σ 192 (0 : Int32) → (∀ σ8 : hh_S, σ8 = hh_uI σ7 67 (0 : Int32) → (∃ n : Nat, hh_lp1 (wq_X7_read_15 Q) n (0 : Int32) σ8)))
theorem in_X7_read_X7 : ∀ w ∈ u_ws RX7 TX7 7, w ∈ wsX7_read := fun w h => List.mem_cons_of_mem _ (List.mem_append_left _ (List.mem_append_right _ h))
theorem in_X7_read_X6 : ∀ w ∈ u_ws RX6 TX6 5, w ∈ wsX7_read := fun w h => List.mem_cons_of_mem _ (List.mem_append_right _ h)
set_option maxHeartbeats 4000000 in
set_option maxRecDepth 100000 in
theorem ad_X7_read {D : va_G} (l : Launch) {cy : Nat → ClassId} {ad : Nat → Nat} (J : hh_J hc_Y ad) (σ : hh_S) (Q : Int32 → hh_S → Prop) (hq : wp_X7_read σ Q) : Met l yX7_read wsX7_read rm_X7_read (va_Pc [.ref (ad 1)] (hh_B D hh_cl hc_Y cy ad σ)) (va_Qi Q (hh_B D hh_cl hc_Y cy ad) (hh_A hc_Y ad)) 0 0 (hh_A hc_Y ad) := by
  refine Met.ofW (cc := cX7_read) (maxL := 2) (ret := (some .int)) (by decide) rfl ?_
  intro p e s m args below meth c s₁ B hml hv
  obtain ⟨hargs, hP0, hK0⟩ := hv
  have hr := B.returns
  have hlocks := B.notSynchronized
  have X : hh_X p m c cX7_read 2 s args wsX7_read RX7 D hh_cl hc_Y cy ad := ⟨⟨B.exec, B.bytes, hml, findClass_of_methodNamed B.named, atoms_spec (ws := wsX7_read) B.pre⟩, hK0, J⟩
  have hx := X.1.1
  have hb1 := X.1.2.1
  have h : hh_H D hh_cl hc_Y cy ad s.heap σ s.heap [] := ⟨hP0, va_S.rf⟩
  have lt_15 : ∀ (n : Nat) (x1 : Int32) (σ : hh_S) (H : Heap) (locs : List Loc) (ls : Array Slot), hh_lp1 (wq_X7_read_15 Q) n x1 σ → hh_H D hh_cl hc_Y cy ad s.heap σ H locs → lv_has ls 2 [(0, .ref (ad 1)), (1, .int x1)] → W p l e (headSpec wsX7_read rm_X7_read).room s m args below meth c H locs 0 0 (MQ below (va_Qi Q (hh_B D hh_cl hc_Y cy ad) (hh_A hc_Y ad)) args s 0 0 (hh_A hc_Y ad)) (F0 m 15 ls []) := by
    intro n
    induction n with
    | zero => intro x1 σ H locs ls hq h hl; exact hq.elim
    | succ n ih =>
      intro x1 σ H locs ls hq h hl
      have hq : wq_X7_read_15 Q (hh_lp1 (wq_X7_read_15 Q) n) x1 σ := hq
      unfold wq_X7_read_15 at hq
      refine lv_iload_n hx hb1 dX7_read_15 rfl (lv_at hl 1 rfl) ?_
      refine lv_aload_n hx hb1 dX7_read_16 rfl (lv_at hl 0 rfl) ?_
      refine hh_geti X h (q := 64) fc_1_0 rfl in_X7_read_X7 kc_1 (by decide) (List.mem_of_getElem? (i := 4) rfl) rfl dX7_read_17 ?_
      refine lv_icmp_ge (tgt := 44) hx hb1 dX7_read_20 (by decide) (fun c1 => ?_) (fun c1 => ?_)
      · have hq := hq.1 c1
        refine lv_aload_n hx hb1 dX7_read_44 rfl (lv_at hl 0 rfl) ?_
        refine hh_geti X h (q := 67) fc_1_3 rfl in_X7_read_X7 kc_1 (by decide) (List.mem_of_getElem? (i := 3) rfl) rfl dX7_read_45 ?_
        refine lv_bipush (v := (8 : Int32)) hx hb1 dX7_read_48 (by decide) ?_
        refine lv_icmp_ne (tgt := 58) hx hb1 dX7_read_50 (by decide) (fun c2 => ?_) (fun c2 => ?_)
        · have hq := hq.1 c2
          refine lv_aload_n hx hb1 dX7_read_58 rfl (lv_at hl 0 rfl) ?_
          refine hh_geti X h (q := 64) fc_1_0 rfl in_X7_read_X7 kc_1 (by decide) (List.mem_of_getElem? (i := 4) rfl) rfl dX7_read_59 ?_
          exact hh_iret X h hr hlocks hq dX7_read_62
        · have hq := hq.2 c2
          refine lv_bipush (v := (-6 : Int32)) hx hb1 dX7_read_53 (by decide) ?_
          refine lv_goto (tgt := 62) hx hb1 dX7_read_55 (by decide) ?_
          exact hh_iret X h hr hlocks hq dX7_read_62
      · have hq := hq.2 c1
        refine lv_aload_n hx hb1 dX7_read_23 rfl (lv_at hl 0 rfl) ?_
        refine lv_aload_n hx hb1 dX7_read_24 rfl (lv_at hl 0 rfl) ?_
        refine hh_getr X h fc_1_2 in_X7_read_X7 kc_1 (by decide) (List.mem_of_getElem? (i := 5) rfl) rfl dX7_read_25 ?_
        refine lv_iload_n hx hb1 dX7_read_28 rfl (lv_at hl 1 rfl) ?_
        obtain ⟨h3, hq⟩ := hq
        refine hh_ild X h ac_19 h3 dX7_read_29 ?_
        refine hh_kI h (va_runV (As := [.int (hh_rA σ 19 x1)]) (rest := []) X.1 (ad_X7_takes (D := D) l J (hh_rA σ 19 x1) σ _ hq) (cwV 1 X.1.2.2.2.2 gX7_read_X7_takes rfl rfl rfl nd_X7_takes ⟨Nat.le_of_ble_eq_true rfl, Nat.le_of_ble_eq_true rfl⟩) (hh_preV X h fc_1_0 kc_1 [.int (hh_rA σ 19 x1)]) rfl rfl hl.1 rfl (lv_room (Nat.le_of_ble_eq_true rfl)) dX7_read_30 ⟨Nat.le_of_ble_eq_true rfl, Nat.le_of_ble_eq_true rfl⟩) (fun r4 σ5 H locs hq h => ?_)
        refine lv_if_ne (tgt := 38) hx hb1 dX7_read_33 (by decide) (fun c6 => ?_) (fun c6 => ?_)
        · have hq := hq.1 c6
          refine lv_iinc (v := (x1 + (1 : Int32))) (lv' := [(1, .int (x1 + (1 : Int32))), (0, .ref (ad 1))]) hx hb1 dX7_read_38 hl (k := 1) rfl rfl (by decide) rfl (fun ls hl => ?_)
          refine lv_goto (tgt := 15) hx hb1 dX7_read_41 (by decide) ?_
          exact ih (x1 + (1 : Int32)) σ5 _ _ ls hq h (lv_sub hl [1, 0] rfl)
        · have hq := hq.2 c6
          refine lv_iload_n hx hb1 dX7_read_36 rfl (lv_at hl 1 rfl) ?_
          exact hh_iret X h hr hlocks hq dX7_read_37
  subst hargs
  refine hh_entry (vs := [.ref (ad 1)]) (Nat.le_of_ble_eq_true rfl) (fun ls hl => ?_)
  have hl : lv_has ls 2 [(0, .ref (ad 1))] := hl
  have hq : wp_X7_read σ Q := hq
  unfold wp_X7_read at hq
  refine lv_aload_n hx hb1 dX7_read_0 rfl (lv_at hl 0 rfl) ?_
  refine hh_getr X h fc_1_1 in_X7_read_X7 kc_1 (by decide) (List.mem_of_getElem? (i := 1) rfl) rfl dX7_read_1 ?_
  refine lv_iconst (v := (0 : Int32)) hx hb1 dX7_read_4 (by decide) ?_
  refine hh_puti X h (q := 192) hc_n fc_3_0 rfl in_X7_read_X6 kc_3 tyX6 tyX6_ok nmX6 (by decide) (List.mem_of_getElem? (i := 2) rfl) rfl rfl rfl rfl dX7_read_5 (fun σ7 H locs eσ7 h => ?_)
  have hq := hq σ7 eσ7
  refine lv_aload_n hx hb1 dX7_read_8 rfl (lv_at hl 0 rfl) ?_
  refine lv_iconst (v := (0 : Int32)) hx hb1 dX7_read_9 (by decide) ?_
  refine hh_puti X h (q := 67) hc_n fc_1_3 rfl in_X7_read_X7 kc_1 tyX7 tyX7_ok nmX7 (by decide) (List.mem_of_getElem? (i := 3) rfl) rfl rfl rfl rfl dX7_read_10 (fun σ8 H locs eσ8 h => ?_)
  have hq := hq σ8 eσ8
  refine lv_iconst (v := (0 : Int32)) hx hb1 dX7_read_13 (by decide) ?_
  refine lv_istore_n (lv' := [(1, .int (0 : Int32)), (0, .ref (ad 1))]) hx hb1 dX7_read_14 rfl hl (by decide) rfl (fun ls hl => ?_)
  obtain ⟨n9, hq⟩ := hq
  exact lt_15 n9 (0 : Int32) σ8 _ _ ls hq h (lv_sub hl [1, 0] rfl)
