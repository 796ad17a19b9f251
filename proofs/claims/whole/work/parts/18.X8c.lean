theorem nd_X8_pays : yX8_pays.cls = RX8 ∧ yX8_pays.cls ≠ "java/lang/invoke/MethodHandle" ∧ yX8_pays.cls ≠ "java/lang/invoke/VarHandle" ∧ (parseMethodDescriptor yX8_pays.desc).map (fun d => d.parameters.length) = some 3 := by decide +kernel
abbrev rm_X8_pays : Room := { frames := 1, cells := 0, slots := 0, locals := 20 }
def wp_X8_pays (x1 : Int32) (x2 : Int32) (x3 : Int32) (σ : hh_S) (Q : Int32 → hh_S → Prop) : Prop := ((x1 < 0 → (Q (-2 : Int32) σ)) ∧ (¬ x1 < 0 → (((20 : Int32) < x1 → (Q (-2 : Int32) σ)) ∧ (¬ (20 : Int32) < x1 → (wp_X4_allows x2 σ (fun (r3 : Int32) (σ4 : hh_S) => ((r3 = 0 → (Q (-2 : Int32) σ4)) ∧ (¬ r3 = 0 → (wp_X4_allows x3 σ4 (fun (r6 : Int32) (σ7 : hh_S) => ((¬ r6 = 0 → (vp_in x1 21 ∧ ∀ σ10 : hh_S, σ10 = hh_sA σ7 43 x1 x2 → (vp_in x1 21 ∧ ∀ σ12 : hh_S, σ12 = hh_sA σ10 44 x1 x3 → (Q (1 : Int32) σ12)))) ∧ (r6 = 0 → (Q (-2 : Int32) σ7)))))))))))))
theorem in_X8_pays_X8 : ∀ w ∈ u_ws RX8 TX8 13, w ∈ wsX8_pays := fun w h => List.mem_cons_of_mem _ (List.mem_append_left _ (List.mem_append_right _ h))
theorem in_X8_pays_X4 : ∀ w ∈ u_ws RX4 TX4 2, w ∈ wsX8_pays := fun w h => List.mem_cons_of_mem _ (List.mem_append_right _ h)
set_option maxHeartbeats 4000000 in
set_option maxRecDepth 100000 in
theorem ad_X8_pays {D : va_G} (l : Launch) {cy : Nat → ClassId} {ad : Nat → Nat} (J : hh_J hc_Y ad) (x1 : Int32) (x2 : Int32) (x3 : Int32) (σ : hh_S) (Q : Int32 → hh_S → Prop) (hq : wp_X8_pays x1 x2 x3 σ Q) : Met l yX8_pays wsX8_pays rm_X8_pays (va_Pc [.ref (ad 0), .int x1, .int x2, .int x3] (hh_B D hh_cl hc_Y cy ad σ)) (va_Qi Q (hh_B D hh_cl hc_Y cy ad) (hh_A hc_Y ad)) 0 0 (hh_A hc_Y ad) := by
  refine Met.ofW (cc := cX8_pays) (maxL := 4) (ret := (some .int)) (by decide) rfl ?_
  intro p e s m args below meth c s₁ B hml hv
  obtain ⟨hargs, hP0, hK0⟩ := hv
  have hr := B.returns
  have hlocks := B.notSynchronized
  have X : hh_X p m c cX8_pays 4 s args wsX8_pays RX8 D hh_cl hc_Y cy ad := ⟨⟨B.exec, B.bytes, hml, findClass_of_methodNamed B.named, atoms_spec (ws := wsX8_pays) B.pre⟩, hK0, J⟩
  have hx := X.1.1
  have hb1 := X.1.2.1
  have h : hh_H D hh_cl hc_Y cy ad s.heap σ s.heap [] := ⟨hP0, va_S.rf⟩
  subst hargs
  refine hh_entry (vs := [.ref (ad 0), .int x1, .int x2, .int x3]) (Nat.le_of_ble_eq_true rfl) (fun ls hl => ?_)
  have hl : lv_has ls 4 [(0, .ref (ad 0)), (1, .int x1), (2, .int x2), (3, .int x3)] := hl
  have hq : wp_X8_pays x1 x2 x3 σ Q := hq
  unfold wp_X8_pays at hq
  refine lv_iload_n hx hb1 dX8_pays_0 rfl (lv_at hl 1 rfl) ?_
  refine lv_if_lt (tgt := 24) hx hb1 dX8_pays_1 (by decide) (fun c1 => ?_) (fun c1 => ?_)
  · have hq := hq.1 c1
    refine lv_bipush (v := (-2 : Int32)) hx hb1 dX8_pays_24 (by decide) ?_
    exact hh_iret X h hr hlocks hq dX8_pays_26
  · have hq := hq.2 c1
    refine lv_iload_n hx hb1 dX8_pays_4 rfl (lv_at hl 1 rfl) ?_
    refine lv_bipush (v := (20 : Int32)) hx hb1 dX8_pays_5 (by decide) ?_
    refine lv_icmp_gt (tgt := 24) hx hb1 dX8_pays_7 (by decide) (fun c2 => ?_) (fun c2 => ?_)
    · have hq := hq.1 c2
      refine lv_bipush (v := (-2 : Int32)) hx hb1 dX8_pays_24 (by decide) ?_
      exact hh_iret X h hr hlocks hq dX8_pays_26
    · have hq := hq.2 c2
      refine lv_iload_n hx hb1 dX8_pays_10 rfl (lv_at hl 2 rfl) ?_
      refine hh_kI h (va_runS (As := [.int x2]) (rest := []) X.1 (ad_X4_allows (D := D) l J x2 σ _ hq) (va_cwS 1 X.1.2.2.2.2 gX8_pays_X4_allows rfl rfl rfl nd_X4_allows ⟨Nat.le_of_ble_eq_true rfl, Nat.le_of_ble_eq_true rfl⟩) (hh_preS X h [.int x2]) rfl rfl hl.1 rfl (lv_room (Nat.le_of_ble_eq_true rfl)) dX8_pays_11 ⟨Nat.le_of_ble_eq_true rfl, Nat.le_of_ble_eq_true rfl⟩) (fun r3 σ4 H locs hq h => ?_)
      refine lv_if_eq (tgt := 24) hx hb1 dX8_pays_14 (by decide) (fun c5 => ?_) (fun c5 => ?_)
      · have hq := hq.1 c5
        refine lv_bipush (v := (-2 : Int32)) hx hb1 dX8_pays_24 (by decide) ?_
        exact hh_iret X h hr hlocks hq dX8_pays_26
      · have hq := hq.2 c5
        refine lv_iload_n hx hb1 dX8_pays_17 rfl (lv_at hl 3 rfl) ?_
        refine hh_kI h (va_runS (As := [.int x3]) (rest := []) X.1 (ad_X4_allows (D := D) l J x3 σ4 _ hq) (va_cwS 1 X.1.2.2.2.2 gX8_pays_X4_allows rfl rfl rfl nd_X4_allows ⟨Nat.le_of_ble_eq_true rfl, Nat.le_of_ble_eq_true rfl⟩) (hh_preS X h [.int x3]) rfl rfl hl.1 rfl (lv_room (Nat.le_of_ble_eq_true rfl)) dX8_pays_18 ⟨Nat.le_of_ble_eq_true rfl, Nat.le_of_ble_eq_true rfl⟩) (fun r6 σ7 H locs hq h => ?_)
        refine lv_if_ne (tgt := 27) hx hb1 dX8_pays_21 (by decide) (fun c8 => ?_) (fun c8 => ?_)
        · have hq := hq.1 c8
          refine lv_aload_n hx hb1 dX8_pays_27 rfl (lv_at hl 0 rfl) ?_
          refine hh_getr X h fc_0_8 in_X8_pays_X8 kc_0 (by decide) (List.mem_of_getElem? (i := 1) rfl) rfl dX8_pays_28 ?_
          refine hh_getr X h fc_10_0 in_X8_pays_X4 kc_10 (by decide) (List.mem_of_getElem? (i := 2) rfl) rfl dX8_pays_31 ?_
          refine lv_iload_n hx hb1 dX8_pays_34 rfl (lv_at hl 1 rfl) ?_
          refine lv_iload_n hx hb1 dX8_pays_35 rfl (lv_at hl 2 rfl) ?_
          obtain ⟨h9, hq⟩ := hq
          refine hh_ist X h ac_43 h9 dX8_pays_36 (fun σ10 H locs eσ10 h => ?_)
          have hq := hq σ10 eσ10
          refine lv_aload_n hx hb1 dX8_pays_37 rfl (lv_at hl 0 rfl) ?_
          refine hh_getr X h fc_0_8 in_X8_pays_X8 kc_0 (by decide) (List.mem_of_getElem? (i := 1) rfl) rfl dX8_pays_38 ?_
          refine hh_getr X h fc_10_1 in_X8_pays_X4 kc_10 (by decide) (List.mem_of_getElem? (i := 3) rfl) rfl dX8_pays_41 ?_
          refine lv_iload_n hx hb1 dX8_pays_44 rfl (lv_at hl 1 rfl) ?_
          refine lv_iload_n hx hb1 dX8_pays_45 rfl (lv_at hl 3 rfl) ?_
          obtain ⟨h11, hq⟩ := hq
          refine hh_ist X h ac_44 h11 dX8_pays_46 (fun σ12 H locs eσ12 h => ?_)
          have hq := hq σ12 eσ12
          refine lv_iconst (v := (1 : Int32)) hx hb1 dX8_pays_47 (by decide) ?_
          exact hh_iret X h hr hlocks hq dX8_pays_48
        · have hq := hq.2 c8
          refine lv_bipush (v := (-2 : Int32)) hx hb1 dX8_pays_24 (by decide) ?_
          exact hh_iret X h hr hlocks hq dX8_pays_26
theorem nd_X8_belief : yX8_belief.cls = RX8 ∧ yX8_belief.cls ≠ "java/lang/invoke/MethodHandle" ∧ yX8_belief.cls ≠ "java/lang/invoke/VarHandle" ∧ (parseMethodDescriptor yX8_belief.desc).map (fun d => d.parameters.length) = some 1 := by decide +kernel
abbrev rm_X8_belief : Room := { frames := 3, cells := 0, slots := 0, locals := 66 }
def wp_X8_belief (x1 : Int32) (σ : hh_S) (Q : Int32 → hh_S → Prop) : Prop := ((x1 < 0 → (Q (-2 : Int32) σ)) ∧ (¬ x1 < 0 → ((x1 ≤ (2 : Int32) → (wp_X4_firstUntrue σ (fun (r3 : Int32) (σ4 : hh_S) => ((r3 = (-6 : Int32) → (Q r3 σ4)) ∧ (¬ r3 = (-6 : Int32) → ((¬ x1 = 0 → (wp_X4_bestSaying r3 σ4 (fun (r7 : Int32) (σ8 : hh_S) => ((¬ x1 = (1 : Int32) → (wp_X4_brings r3 r7 σ8 (fun (r10 : Int32) (σ11 : hh_S) => (wp_X4_brings r3 r3 σ11 (fun (r12 : Int32) (σ13 : hh_S) => (Q (r10 - r12) σ13)))))) ∧ (x1 = (1 : Int32) → (Q r7 σ8)))))) ∧ (x1 = 0 → (Q r3 σ4)))))))) ∧ (¬ x1 ≤ (2 : Int32) → (Q (-2 : Int32) σ)))))
theorem in_X8_belief_X8 : ∀ w ∈ u_ws RX8 TX8 13, w ∈ wsX8_belief := fun w h => List.mem_cons_of_mem _ (List.mem_append_left _ (List.mem_append_right _ h))
theorem in_X8_belief_X4 : ∀ w ∈ u_ws RX4 TX4 2, w ∈ wsX8_belief := fun w h => List.mem_cons_of_mem _ (List.mem_append_right _ h)
set_option maxHeartbeats 4000000 in
set_option maxRecDepth 100000 in
theorem ad_X8_belief {D : va_G} (l : Launch) {cy : Nat → ClassId} {ad : Nat → Nat} (J : hh_J hc_Y ad) (x1 : Int32) (σ : hh_S) (Q : Int32 → hh_S → Prop) (hq : wp_X8_belief x1 σ Q) : Met l yX8_belief wsX8_belief rm_X8_belief (va_Pc [.ref (ad 0), .int x1] (hh_B D hh_cl hc_Y cy ad σ)) (va_Qi Q (hh_B D hh_cl hc_Y cy ad) (hh_A hc_Y ad)) 0 0 (hh_A hc_Y ad) := by
  refine Met.ofW (cc := cX8_belief) (maxL := 4) (ret := (some .int)) (by decide) rfl ?_
  intro p e s m args below meth c s₁ B hml hv
  obtain ⟨hargs, hP0, hK0⟩ := hv
  have hr := B.returns
  have hlocks := B.notSynchronized
  have X : hh_X p m c cX8_belief 4 s args wsX8_belief RX8 D hh_cl hc_Y cy ad := ⟨⟨B.exec, B.bytes, hml, findClass_of_methodNamed B.named, atoms_spec (ws := wsX8_belief) B.pre⟩, hK0, J⟩
  have hx := X.1.1
  have hb1 := X.1.2.1
  have h : hh_H D hh_cl hc_Y cy ad s.heap σ s.heap [] := ⟨hP0, va_S.rf⟩
  subst hargs
  refine hh_entry (vs := [.ref (ad 0), .int x1]) (Nat.le_of_ble_eq_true rfl) (fun ls hl => ?_)
  have hl : lv_has ls 4 [(0, .ref (ad 0)), (1, .int x1)] := hl
  have hq : wp_X8_belief x1 σ Q := hq
  unfold wp_X8_belief at hq
  refine lv_iload_n hx hb1 dX8_belief_0 rfl (lv_at hl 1 rfl) ?_
  refine lv_if_lt (tgt := 9) hx hb1 dX8_belief_1 (by decide) (fun c1 => ?_) (fun c1 => ?_)
  · have hq := hq.1 c1
    refine lv_bipush (v := (-2 : Int32)) hx hb1 dX8_belief_9 (by decide) ?_
    exact hh_iret X h hr hlocks hq dX8_belief_11
  · have hq := hq.2 c1
    refine lv_iload_n hx hb1 dX8_belief_4 rfl (lv_at hl 1 rfl) ?_
    refine lv_iconst (v := (2 : Int32)) hx hb1 dX8_belief_5 (by decide) ?_
    refine lv_icmp_le (tgt := 12) hx hb1 dX8_belief_6 (by decide) (fun c2 => ?_) (fun c2 => ?_)
    · have hq := hq.1 c2
      refine lv_aload_n hx hb1 dX8_belief_12 rfl (lv_at hl 0 rfl) ?_
      refine hh_getr X h fc_0_8 in_X8_belief_X8 kc_0 (by decide) (List.mem_of_getElem? (i := 1) rfl) rfl dX8_belief_13 ?_
      refine hh_kI h (va_runV (As := []) (rest := []) X.1 (ad_X4_firstUntrue (D := D) l J σ _ hq) (cwV 0 X.1.2.2.2.2 gX8_belief_X4_firstUntrue rfl rfl rfl nd_X4_firstUntrue ⟨Nat.le_of_ble_eq_true rfl, Nat.le_of_ble_eq_true rfl⟩) (hh_preV X h fc_10_0 kc_10 []) rfl rfl hl.1 rfl (lv_room (Nat.le_of_ble_eq_true rfl)) dX8_belief_16 ⟨Nat.le_of_ble_eq_true rfl, Nat.le_of_ble_eq_true rfl⟩) (fun r3 σ4 H locs hq h => ?_)
      refine lv_istore_n (lv' := [(2, .int r3), (0, .ref (ad 0)), (1, .int x1)]) hx hb1 dX8_belief_19 rfl hl (by decide) rfl (fun ls hl => ?_)
      refine lv_iload_n hx hb1 dX8_belief_20 rfl (lv_at hl 0 rfl) ?_
      refine lv_bipush (v := (-6 : Int32)) hx hb1 dX8_belief_21 (by decide) ?_
      refine lv_icmp_eq (tgt := 30) hx hb1 dX8_belief_23 (by decide) (fun c5 => ?_) (fun c5 => ?_)
      · have hq := hq.1 c5
        refine lv_iload_n hx hb1 dX8_belief_30 rfl (lv_at hl 0 rfl) ?_
        exact hh_iret X h hr hlocks hq dX8_belief_31
      · have hq := hq.2 c5
        refine lv_iload_n hx hb1 dX8_belief_26 rfl (lv_at hl 2 rfl) ?_
        refine lv_if_ne (tgt := 32) hx hb1 dX8_belief_27 (by decide) (fun c6 => ?_) (fun c6 => ?_)
        · have hq := hq.1 c6
          refine lv_aload_n hx hb1 dX8_belief_32 rfl (lv_at hl 1 rfl) ?_
          refine hh_getr X h fc_0_8 in_X8_belief_X8 kc_0 (by decide) (List.mem_of_getElem? (i := 1) rfl) rfl dX8_belief_33 ?_
          refine lv_iload_n hx hb1 dX8_belief_36 rfl (lv_at hl 0 rfl) ?_
          refine hh_kI h (va_runV (As := [.int r3]) (rest := []) X.1 (ad_X4_bestSaying (D := D) l J r3 σ4 _ hq) (cwV 1 X.1.2.2.2.2 gX8_belief_X4_bestSaying rfl rfl rfl nd_X4_bestSaying ⟨Nat.le_of_ble_eq_true rfl, Nat.le_of_ble_eq_true rfl⟩) (hh_preV X h fc_10_0 kc_10 [.int r3]) rfl rfl hl.1 rfl (lv_room (Nat.le_of_ble_eq_true rfl)) dX8_belief_37 ⟨Nat.le_of_ble_eq_true rfl, Nat.le_of_ble_eq_true rfl⟩) (fun r7 σ8 H locs hq h => ?_)
          refine lv_istore_n (lv' := [(3, .int r7), (2, .int r3), (0, .ref (ad 0)), (1, .int x1)]) hx hb1 dX8_belief_40 rfl hl (by decide) rfl (fun ls hl => ?_)
          refine lv_iload_n hx hb1 dX8_belief_41 rfl (lv_at hl 3 rfl) ?_
          refine lv_iconst (v := (1 : Int32)) hx hb1 dX8_belief_42 (by decide) ?_
          refine lv_icmp_ne (tgt := 50) hx hb1 dX8_belief_43 (by decide) (fun c9 => ?_) (fun c9 => ?_)
          · have hq := hq.1 c9
            refine lv_aload_n hx hb1 dX8_belief_50 rfl (lv_at hl 2 rfl) ?_
            refine hh_getr X h fc_0_8 in_X8_belief_X8 kc_0 (by decide) (List.mem_of_getElem? (i := 1) rfl) rfl dX8_belief_51 ?_
            refine lv_iload_n hx hb1 dX8_belief_54 rfl (lv_at hl 1 rfl) ?_
            refine lv_iload_n hx hb1 dX8_belief_55 rfl (lv_at hl 0 rfl) ?_
            refine hh_kI h (va_runV (As := [.int r3, .int r7]) (rest := []) X.1 (ad_X4_brings (D := D) l J r3 r7 σ8 _ hq) (cwV 2 X.1.2.2.2.2 gX8_belief_X4_brings rfl rfl rfl nd_X4_brings ⟨Nat.le_of_ble_eq_true rfl, Nat.le_of_ble_eq_true rfl⟩) (hh_preV X h fc_10_0 kc_10 [.int r3, .int r7]) rfl rfl hl.1 rfl (lv_room (Nat.le_of_ble_eq_true rfl)) dX8_belief_56 ⟨Nat.le_of_ble_eq_true rfl, Nat.le_of_ble_eq_true rfl⟩) (fun r10 σ11 H locs hq h => ?_)
            refine lv_aload_n hx hb1 dX8_belief_59 rfl (lv_at hl 2 rfl) ?_
            refine hh_getr X h fc_0_8 in_X8_belief_X8 kc_0 (by decide) (List.mem_of_getElem? (i := 1) rfl) rfl dX8_belief_60 ?_
            refine lv_iload_n hx hb1 dX8_belief_63 rfl (lv_at hl 1 rfl) ?_
            refine lv_iload_n hx hb1 dX8_belief_64 rfl (lv_at hl 1 rfl) ?_
            refine hh_kI h (va_runV (As := [.int r3, .int r3]) (rest := [.int r10]) X.1 (ad_X4_brings (D := D) l J r3 r3 σ11 _ hq) (cwV 2 X.1.2.2.2.2 gX8_belief_X4_brings rfl rfl rfl nd_X4_brings ⟨Nat.le_of_ble_eq_true rfl, Nat.le_of_ble_eq_true rfl⟩) (hh_preV X h fc_10_0 kc_10 [.int r3, .int r3]) rfl rfl hl.1 rfl (lv_room (Nat.le_of_ble_eq_true rfl)) dX8_belief_65 ⟨Nat.le_of_ble_eq_true rfl, Nat.le_of_ble_eq_true rfl⟩) (fun r12 σ13 H locs hq h => ?_)
            refine lv_isub hx hb1 dX8_belief_68 ?_
            exact hh_iret X h hr hlocks hq dX8_belief_69
          · have hq := hq.2 c9
            refine lv_iload_n hx hb1 dX8_belief_46 rfl (lv_at hl 0 rfl) ?_
            refine lv_goto (tgt := 69) hx hb1 dX8_belief_47 (by decide) ?_
            exact hh_iret X h hr hlocks hq dX8_belief_69
        · have hq := hq.2 c6
          refine lv_iload_n hx hb1 dX8_belief_30 rfl (lv_at hl 0 rfl) ?_
          exact hh_iret X h hr hlocks hq dX8_belief_31
    · have hq := hq.2 c2
      refine lv_bipush (v := (-2 : Int32)) hx hb1 dX8_belief_9 (by decide) ?_
      exact hh_iret X h hr hlocks hq dX8_belief_11
theorem nd_X8_plan : yX8_plan.cls = RX8 ∧ yX8_plan.cls ≠ "java/lang/invoke/MethodHandle" ∧ yX8_plan.cls ≠ "java/lang/invoke/VarHandle" ∧ (parseMethodDescriptor yX8_plan.desc).map (fun d => d.parameters.length) = some 2 := by decide +kernel
abbrev rm_X8_plan : Room := { frames := 2, cells := 0, slots := 0, locals := 48 }
def wq_X8_plan_25 (x1 : Int32) (x2 : Int32) (Q : Int32 → hh_S → Prop) (K25 : Int32 → hh_S → Prop) (x3 : Int32) (σ : hh_S) : Prop := (((9 : Int32) < x3 → (Q (-6 : Int32) σ)) ∧ (¬ (9 : Int32) < x3 → (wp_X3_greaterPart x1 x3 σ (fun (r2 : Int64) (σ3 : hh_S) => (wp_X3_power (100 : Int32) (x3 - (1 : Int32)) σ3 (fun (r4 : Int64) (σ5 : hh_S) => (((lg_cmp r2 ((x2.toInt64) * r4)) < 0 → (K25 (x3 + (2 : Int32)) σ5)) ∧ (¬ (lg_cmp r2 ((x2.toInt64) * r4)) < 0 → (Q x3 σ5)))))))))
def wp_X8_plan (x1 : Int32) (x2 : Int32) (σ : hh_S) (Q : Int32 → hh_S → Prop) : Prop := ((x1 < 0 → (Q (-2 : Int32) σ)) ∧ (¬ x1 < 0 → (((100 : Int32) < x1 → (Q (-2 : Int32) σ)) ∧ (¬ (100 : Int32) < x1 → ((x2 < 0 → (Q (-2 : Int32) σ)) ∧ (¬ x2 < 0 → ((x2 ≤ (100 : Int32) → (∃ n : Nat, hh_lp1 (wq_X8_plan_25 x1 x2 Q) n (1 : Int32) σ)) ∧ (¬ x2 ≤ (100 : Int32) → (Q (-2 : Int32) σ)))))))))
set_option maxHeartbeats 4000000 in
set_option maxRecDepth 100000 in
theorem ad_X8_plan {D : va_G} (l : Launch) {cy : Nat → ClassId} {ad : Nat → Nat} (J : hh_J hc_Y ad) (x1 : Int32) (x2 : Int32) (σ : hh_S) (Q : Int32 → hh_S → Prop) (hq : wp_X8_plan x1 x2 σ Q) : Met l yX8_plan wsX8_plan rm_X8_plan (va_Pc [.ref (ad 0), .int x1, .int x2] (hh_B D hh_cl hc_Y cy ad σ)) (va_Qi Q (hh_B D hh_cl hc_Y cy ad) (hh_A hc_Y ad)) 0 0 (hh_A hc_Y ad) := by
  refine Met.ofW (cc := cX8_plan) (maxL := 4) (ret := (some .int)) (by decide) rfl ?_
  intro p e s m args below meth c s₁ B hml hv
  obtain ⟨hargs, hP0, hK0⟩ := hv
  have hr := B.returns
  have hlocks := B.notSynchronized
  have X : hh_X p m c cX8_plan 4 s args wsX8_plan RX8 D hh_cl hc_Y cy ad := ⟨⟨B.exec, B.bytes, hml, findClass_of_methodNamed B.named, atoms_spec (ws := wsX8_plan) B.pre⟩, hK0, J⟩
  have hx := X.1.1
  have hb1 := X.1.2.1
  have h : hh_H D hh_cl hc_Y cy ad s.heap σ s.heap [] := ⟨hP0, va_S.rf⟩
  have lt_25 : ∀ (x1 : Int32) (x2 : Int32) (n : Nat) (x3 : Int32) (σ : hh_S) (H : Heap) (locs : List Loc) (ls : Array Slot), hh_lp1 (wq_X8_plan_25 x1 x2 Q) n x3 σ → hh_H D hh_cl hc_Y cy ad s.heap σ H locs → lv_has ls 4 [(1, .int x1), (2, .int x2), (3, .int x3)] → W p l e (headSpec wsX8_plan rm_X8_plan).room s m args below meth c H locs 0 0 (MQ below (va_Qi Q (hh_B D hh_cl hc_Y cy ad) (hh_A hc_Y ad)) args s 0 0 (hh_A hc_Y ad)) (F0 m 25 ls []) := by
    intro x1 x2 n
    induction n with
    | zero => intro x3 σ H locs ls hq h hl; exact hq.elim
    | succ n ih =>
      intro x3 σ H locs ls hq h hl
      have hq : wq_X8_plan_25 x1 x2 Q (hh_lp1 (wq_X8_plan_25 x1 x2 Q) n) x3 σ := hq
      unfold wq_X8_plan_25 at hq
      refine lv_iload_n hx hb1 dX8_plan_25 rfl (lv_at hl 2 rfl) ?_
      refine lv_bipush (v := (9 : Int32)) hx hb1 dX8_plan_26 (by decide) ?_
      refine lv_icmp_gt (tgt := 59) hx hb1 dX8_plan_28 (by decide) (fun c1 => ?_) (fun c1 => ?_)
      · have hq := hq.1 c1
        refine lv_bipush (v := (-6 : Int32)) hx hb1 dX8_plan_59 (by decide) ?_
        exact hh_iret X h hr hlocks hq dX8_plan_61
      · have hq := hq.2 c1
        refine lv_iload_n hx hb1 dX8_plan_31 rfl (lv_at hl 0 rfl) ?_
        refine lv_iload_n hx hb1 dX8_plan_32 rfl (lv_at hl 2 rfl) ?_
        refine hh_kL h (va_runS (As := [.int x1, .int x3]) (rest := []) X.1 (ad_X3_greaterPart (D := D) l J x1 x3 σ _ hq) (va_cwS 2 X.1.2.2.2.2 gX8_plan_X3_greaterPart rfl rfl rfl nd_X3_greaterPart ⟨Nat.le_of_ble_eq_true rfl, Nat.le_of_ble_eq_true rfl⟩) (hh_preS X h [.int x1, .int x3]) rfl rfl hl.1 rfl (lv_room (Nat.le_of_ble_eq_true rfl)) dX8_plan_33 ⟨Nat.le_of_ble_eq_true rfl, Nat.le_of_ble_eq_true rfl⟩) (fun r2 σ3 H locs hq h => ?_)
        refine lv_iload_n hx hb1 dX8_plan_36 rfl (lv_at hl 1 rfl) ?_
        refine lv_i2l (v := (x2).toInt64) hx hb1 dX8_plan_37 rfl ?_
        refine lv_bipush (v := (100 : Int32)) hx hb1 dX8_plan_38 (by decide) ?_
        refine lv_iload_n hx hb1 dX8_plan_40 rfl (lv_at hl 2 rfl) ?_
        refine lv_iconst (v := (1 : Int32)) hx hb1 dX8_plan_41 (by decide) ?_
        refine lv_isub hx hb1 dX8_plan_42 ?_
        refine hh_kL h (va_runS (As := [.int (100 : Int32), .int (x3 - (1 : Int32))]) (rest := [.long (x2.toInt64), .long r2]) X.1 (ad_X3_power (D := D) l J (100 : Int32) (x3 - (1 : Int32)) σ3 _ hq) (va_cwS 2 X.1.2.2.2.2 gX8_plan_X3_power rfl rfl rfl nd_X3_power ⟨Nat.le_of_ble_eq_true rfl, Nat.le_of_ble_eq_true rfl⟩) (hh_preS X h [.int (100 : Int32), .int (x3 - (1 : Int32))]) rfl rfl hl.1 rfl (lv_room (Nat.le_of_ble_eq_true rfl)) dX8_plan_43 ⟨Nat.le_of_ble_eq_true rfl, Nat.le_of_ble_eq_true rfl⟩) (fun r4 σ5 H locs hq h => ?_)
        refine lv_lmul hx hb1 dX8_plan_46 ?_
        refine W.lcmp hx hb1 dX8_plan_47 ?_
        refine lv_if_lt (tgt := 53) hx hb1 dX8_plan_48 (by decide) (fun c6 => ?_) (fun c6 => ?_)
        · have hq := hq.1 c6
          refine lv_iinc (v := (x3 + (2 : Int32))) (lv' := [(3, .int (x3 + (2 : Int32))), (1, .int x1), (2, .int x2)]) hx hb1 dX8_plan_53 hl (k := 2) rfl rfl (by decide) rfl (fun ls hl => ?_)
          refine lv_goto (tgt := 25) hx hb1 dX8_plan_56 (by decide) ?_
          exact ih (x3 + (2 : Int32)) σ5 _ _ ls hq h (lv_sub hl [1, 2, 0] rfl)
        · have hq := hq.2 c6
          refine lv_iload_n hx hb1 dX8_plan_51 rfl (lv_at hl 2 rfl) ?_
          exact hh_iret X h hr hlocks hq dX8_plan_52
  subst hargs
  refine hh_entry (vs := [.ref (ad 0), .int x1, .int x2]) (Nat.le_of_ble_eq_true rfl) (fun ls hl => ?_)
  have hl : lv_has ls 4 [(0, .ref (ad 0)), (1, .int x1), (2, .int x2)] := hl
  have hq : wp_X8_plan x1 x2 σ Q := hq
  unfold wp_X8_plan at hq
  refine lv_iload_n hx hb1 dX8_plan_0 rfl (lv_at hl 1 rfl) ?_
  refine lv_if_lt (tgt := 20) hx hb1 dX8_plan_1 (by decide) (fun c7 => ?_) (fun c7 => ?_)
  · have hq := hq.1 c7
    refine lv_bipush (v := (-2 : Int32)) hx hb1 dX8_plan_20 (by decide) ?_
    exact hh_iret X h hr hlocks hq dX8_plan_22
  · have hq := hq.2 c7
    refine lv_iload_n hx hb1 dX8_plan_4 rfl (lv_at hl 1 rfl) ?_
    refine lv_bipush (v := (100 : Int32)) hx hb1 dX8_plan_5 (by decide) ?_
    refine lv_icmp_gt (tgt := 20) hx hb1 dX8_plan_7 (by decide) (fun c8 => ?_) (fun c8 => ?_)
    · have hq := hq.1 c8
      refine lv_bipush (v := (-2 : Int32)) hx hb1 dX8_plan_20 (by decide) ?_
      exact hh_iret X h hr hlocks hq dX8_plan_22
    · have hq := hq.2 c8
      refine lv_iload_n hx hb1 dX8_plan_10 rfl (lv_at hl 2 rfl) ?_
      refine lv_if_lt (tgt := 20) hx hb1 dX8_plan_11 (by decide) (fun c9 => ?_) (fun c9 => ?_)
      · have hq := hq.1 c9
        refine lv_bipush (v := (-2 : Int32)) hx hb1 dX8_plan_20 (by decide) ?_
        exact hh_iret X h hr hlocks hq dX8_plan_22
      · have hq := hq.2 c9
        refine lv_iload_n hx hb1 dX8_plan_14 rfl (lv_at hl 2 rfl) ?_
        refine lv_bipush (v := (100 : Int32)) hx hb1 dX8_plan_15 (by decide) ?_
        refine lv_icmp_le (tgt := 23) hx hb1 dX8_plan_17 (by decide) (fun c10 => ?_) (fun c10 => ?_)
        · have hq := hq.1 c10
          refine lv_iconst (v := (1 : Int32)) hx hb1 dX8_plan_23 (by decide) ?_
          refine lv_istore_n (lv' := [(3, .int (1 : Int32)), (0, .ref (ad 0)), (1, .int x1), (2, .int x2)]) hx hb1 dX8_plan_24 rfl hl (by decide) rfl (fun ls hl => ?_)
          obtain ⟨n11, hq⟩ := hq
          exact lt_25 x1 x2 n11 (1 : Int32) σ _ _ ls hq h (lv_sub hl [2, 3, 0] rfl)
        · have hq := hq.2 c10
          refine lv_bipush (v := (-2 : Int32)) hx hb1 dX8_plan_20 (by decide) ?_
          exact hh_iret X h hr hlocks hq dX8_plan_22
theorem nd_X8_allAnswers : yX8_allAnswers.cls = RX8 ∧ yX8_allAnswers.cls ≠ "java/lang/invoke/MethodHandle" ∧ yX8_allAnswers.cls ≠ "java/lang/invoke/VarHandle" ∧ (parseMethodDescriptor yX8_allAnswers.desc).map (fun d => d.parameters.length) = some 0 := by decide +kernel
abbrev rm_X8_allAnswers : Room := { frames := 2, cells := 0, slots := 0, locals := 45 }
def wq_X8_allAnswers_4 (Q : Int32 → hh_S → Prop) (K4 : Int32 → Int32 → hh_S → Prop) (x1 : Int32) (x2 : Int32) (σ : hh_S) : Prop := (((hh_I σ 320) ≤ x2 → (Q x1 σ)) ∧ (¬ (hh_I σ 320) ≤ x2 → (wp_X8_answersOf x2 σ (fun (r2 : Int32) (σ3 : hh_S) => (K4 (x1 + r2) (x2 + (1 : Int32)) σ3)))))
def wp_X8_allAnswers (σ : hh_S) (Q : Int32 → hh_S → Prop) : Prop := (∃ n : Nat, hh_lp2 (wq_X8_allAnswers_4 Q) n (0 : Int32) (0 : Int32) σ)
theorem in_X8_allAnswers_X8 : ∀ w ∈ u_ws RX8 TX8 13, w ∈ wsX8_allAnswers := fun w h => List.mem_cons_of_mem _ (List.mem_append_left _ (List.mem_append_left _ (List.mem_append_right _ h)))
theorem in_X8_allAnswers_X0 : ∀ w ∈ u_ws RX0 TX0 4, w ∈ wsX8_allAnswers := fun w h => List.mem_cons_of_mem _ (List.mem_append_left _ (List.mem_append_right _ h))
theorem in_X8_allAnswers_X1 : ∀ w ∈ u_ws RX1 TX1 7, w ∈ wsX8_allAnswers := fun w h => List.mem_cons_of_mem _ (List.mem_append_right _ h)
set_option maxHeartbeats 4000000 in
set_option maxRecDepth 100000 in
theorem ad_X8_allAnswers {D : va_G} (l : Launch) {cy : Nat → ClassId} {ad : Nat → Nat} (J : hh_J hc_Y ad) (σ : hh_S) (Q : Int32 → hh_S → Prop) (hq : wp_X8_allAnswers σ Q) : Met l yX8_allAnswers wsX8_allAnswers rm_X8_allAnswers (va_Pc [.ref (ad 0)] (hh_B D hh_cl hc_Y cy ad σ)) (va_Qi Q (hh_B D hh_cl hc_Y cy ad) (hh_A hc_Y ad)) 0 0 (hh_A hc_Y ad) := by
  refine Met.ofW (cc := cX8_allAnswers) (maxL := 3) (ret := (some .int)) (by decide) rfl ?_
  intro p e s m args below meth c s₁ B hml hv
  obtain ⟨hargs, hP0, hK0⟩ := hv
  have hr := B.returns
  have hlocks := B.notSynchronized
  have X : hh_X p m c cX8_allAnswers 3 s args wsX8_allAnswers RX8 D hh_cl hc_Y cy ad := ⟨⟨B.exec, B.bytes, hml, findClass_of_methodNamed B.named, atoms_spec (ws := wsX8_allAnswers) B.pre⟩, hK0, J⟩
  have hx := X.1.1
  have hb1 := X.1.2.1
  have h : hh_H D hh_cl hc_Y cy ad s.heap σ s.heap [] := ⟨hP0, va_S.rf⟩
  have lt_4 : ∀ (n : Nat) (x1 : Int32) (x2 : Int32) (σ : hh_S) (H : Heap) (locs : List Loc) (ls : Array Slot), hh_lp2 (wq_X8_allAnswers_4 Q) n x1 x2 σ → hh_H D hh_cl hc_Y cy ad s.heap σ H locs → lv_has ls 3 [(0, .ref (ad 0)), (1, .int x1), (2, .int x2)] → W p l e (headSpec wsX8_allAnswers rm_X8_allAnswers).room s m args below meth c H locs 0 0 (MQ below (va_Qi Q (hh_B D hh_cl hc_Y cy ad) (hh_A hc_Y ad)) args s 0 0 (hh_A hc_Y ad)) (F0 m 4 ls []) := by
    intro n
    induction n with
    | zero => intro x1 x2 σ H locs ls hq h hl; exact hq.elim
    | succ n ih =>
      intro x1 x2 σ H locs ls hq h hl
      have hq : wq_X8_allAnswers_4 Q (hh_lp2 (wq_X8_allAnswers_4 Q) n) x1 x2 σ := hq
      unfold wq_X8_allAnswers_4 at hq
      refine lv_iload_n hx hb1 dX8_allAnswers_4 rfl (lv_at hl 2 rfl) ?_
      refine lv_aload_n hx hb1 dX8_allAnswers_5 rfl (lv_at hl 0 rfl) ?_
      refine hh_getr X h fc_0_3 in_X8_allAnswers_X8 kc_0 (by decide) (List.mem_of_getElem? (i := 1) rfl) rfl dX8_allAnswers_6 ?_
      refine hh_geti X h (q := 320) fc_5_0 rfl in_X8_allAnswers_X0 kc_5 (by decide) (List.mem_of_getElem? (i := 2) rfl) rfl dX8_allAnswers_9 ?_
      refine lv_icmp_ge (tgt := 29) hx hb1 dX8_allAnswers_12 (by decide) (fun c1 => ?_) (fun c1 => ?_)
      · have hq := hq.1 c1
        refine lv_iload_n hx hb1 dX8_allAnswers_29 rfl (lv_at hl 1 rfl) ?_
        exact hh_iret X h hr hlocks hq dX8_allAnswers_30
      · have hq := hq.2 c1
        refine lv_iload_n hx hb1 dX8_allAnswers_15 rfl (lv_at hl 1 rfl) ?_
        refine lv_aload_n hx hb1 dX8_allAnswers_16 rfl (lv_at hl 0 rfl) ?_
        refine lv_iload_n hx hb1 dX8_allAnswers_17 rfl (lv_at hl 2 rfl) ?_
        refine hh_kI h (va_runV (As := [.int x2]) (rest := [.int x1]) X.1 (ad_X8_answersOf (D := D) l J x2 σ _ hq) (cwV 1 X.1.2.2.2.2 gX8_allAnswers_X8_answersOf rfl rfl rfl nd_X8_answersOf ⟨Nat.le_of_ble_eq_true rfl, Nat.le_of_ble_eq_true rfl⟩) (hh_preV X h fc_0_0 kc_0 [.int x2]) rfl rfl hl.1 rfl (lv_room (Nat.le_of_ble_eq_true rfl)) dX8_allAnswers_18 ⟨Nat.le_of_ble_eq_true rfl, Nat.le_of_ble_eq_true rfl⟩) (fun r2 σ3 H locs hq h => ?_)
        refine lv_iadd hx hb1 dX8_allAnswers_21 ?_
        refine lv_istore_n (lv' := [(1, .int (x1 + r2)), (0, .ref (ad 0)), (2, .int x2)]) hx hb1 dX8_allAnswers_22 rfl hl (by decide) rfl (fun ls hl => ?_)
        refine lv_iinc (v := (x2 + (1 : Int32))) (lv' := [(2, .int (x2 + (1 : Int32))), (1, .int (x1 + r2)), (0, .ref (ad 0))]) hx hb1 dX8_allAnswers_23 hl (k := 2) rfl rfl (by decide) rfl (fun ls hl => ?_)
        refine lv_goto (tgt := 4) hx hb1 dX8_allAnswers_26 (by decide) ?_
        exact ih (x1 + r2) (x2 + (1 : Int32)) σ3 _ _ ls hq h (lv_sub hl [2, 1, 0] rfl)
  subst hargs
  refine hh_entry (vs := [.ref (ad 0)]) (Nat.le_of_ble_eq_true rfl) (fun ls hl => ?_)
  have hl : lv_has ls 3 [(0, .ref (ad 0))] := hl
  have hq : wp_X8_allAnswers σ Q := hq
  unfold wp_X8_allAnswers at hq
  refine lv_iconst (v := (0 : Int32)) hx hb1 dX8_allAnswers_0 (by decide) ?_
  refine lv_istore_n (lv' := [(1, .int (0 : Int32)), (0, .ref (ad 0))]) hx hb1 dX8_allAnswers_1 rfl hl (by decide) rfl (fun ls hl => ?_)
  refine lv_iconst (v := (0 : Int32)) hx hb1 dX8_allAnswers_2 (by decide) ?_
  refine lv_istore_n (lv' := [(2, .int (0 : Int32)), (1, .int (0 : Int32)), (0, .ref (ad 0))]) hx hb1 dX8_allAnswers_3 rfl hl (by decide) rfl (fun ls hl => ?_)
  obtain ⟨n4, hq⟩ := hq
  exact lt_4 n4 (0 : Int32) (0 : Int32) σ _ _ ls hq h (lv_sub hl [2, 1, 0] rfl)
theorem nd_X8_openItems : yX8_openItems.cls = RX8 ∧ yX8_openItems.cls ≠ "java/lang/invoke/MethodHandle" ∧ yX8_openItems.cls ≠ "java/lang/invoke/VarHandle" ∧ (parseMethodDescriptor yX8_openItems.desc).map (fun d => d.parameters.length) = some 0 := by decide +kernel
abbrev rm_X8_openItems : Room := { frames := 3, cells := 0, slots := 0, locals := 68 }
def wq_X8_openItems_4 (Q : Int32 → hh_S → Prop) (K4 : Int32 → Int32 → hh_S → Prop) (x1 : Int32) (x2 : Int32) (σ : hh_S) : Prop := (((hh_I σ 256) ≤ x2 → (Q x1 σ)) ∧ (¬ (hh_I σ 256) ≤ x2 → (wp_X8_isOpen x2 σ (fun (r2 : Int32) (σ3 : hh_S) => ((r2 = 0 → (K4 x1 (x2 + (1 : Int32)) σ3)) ∧ (¬ r2 = 0 → (∀ v5 : Int32, v5 = (x1 ||| ((1 : Int32) <<< (x2 &&& 31))) → (K4 v5 (x2 + (1 : Int32)) σ3))))))))
def wp_X8_openItems (σ : hh_S) (Q : Int32 → hh_S → Prop) : Prop := (∃ n : Nat, hh_lp2 (wq_X8_openItems_4 Q) n (0 : Int32) (0 : Int32) σ)
theorem in_X8_openItems_X8 : ∀ w ∈ u_ws RX8 TX8 13, w ∈ wsX8_openItems := fun w h => List.mem_cons_of_mem _ (List.mem_append_left _ (List.mem_append_left _ (List.mem_append_left _ (List.mem_append_right _ h))))
theorem in_X8_openItems_X1 : ∀ w ∈ u_ws RX1 TX1 7, w ∈ wsX8_openItems := fun w h => List.mem_cons_of_mem _ (List.mem_append_left _ (List.mem_append_left _ (List.mem_append_right _ h)))
theorem in_X8_openItems_X6 : ∀ w ∈ u_ws RX6 TX6 5, w ∈ wsX8_openItems := fun w h => List.mem_cons_of_mem _ (List.mem_append_left _ (List.mem_append_right _ h))
theorem in_X8_openItems_X2 : ∀ w ∈ u_ws RX2 TX2 9, w ∈ wsX8_openItems := fun w h => List.mem_cons_of_mem _ (List.mem_append_right _ h)
set_option maxHeartbeats 4000000 in
set_option maxRecDepth 100000 in
theorem ad_X8_openItems {D : va_G} (l : Launch) {cy : Nat → ClassId} {ad : Nat → Nat} (J : hh_J hc_Y ad) (σ : hh_S) (Q : Int32 → hh_S → Prop) (hq : wp_X8_openItems σ Q) : Met l yX8_openItems wsX8_openItems rm_X8_openItems (va_Pc [.ref (ad 0)] (hh_B D hh_cl hc_Y cy ad σ)) (va_Qi Q (hh_B D hh_cl hc_Y cy ad) (hh_A hc_Y ad)) 0 0 (hh_A hc_Y ad) := by
  refine Met.ofW (cc := cX8_openItems) (maxL := 3) (ret := (some .int)) (by decide) rfl ?_
  intro p e s m args below meth c s₁ B hml hv
  obtain ⟨hargs, hP0, hK0⟩ := hv
  have hr := B.returns
  have hlocks := B.notSynchronized
  have X : hh_X p m c cX8_openItems 3 s args wsX8_openItems RX8 D hh_cl hc_Y cy ad := ⟨⟨B.exec, B.bytes, hml, findClass_of_methodNamed B.named, atoms_spec (ws := wsX8_openItems) B.pre⟩, hK0, J⟩
  have hx := X.1.1
  have hb1 := X.1.2.1
  have h : hh_H D hh_cl hc_Y cy ad s.heap σ s.heap [] := ⟨hP0, va_S.rf⟩
  have lt_4 : ∀ (n : Nat) (x1 : Int32) (x2 : Int32) (σ : hh_S) (H : Heap) (locs : List Loc) (ls : Array Slot), hh_lp2 (wq_X8_openItems_4 Q) n x1 x2 σ → hh_H D hh_cl hc_Y cy ad s.heap σ H locs → lv_has ls 3 [(0, .ref (ad 0)), (1, .int x1), (2, .int x2)] → W p l e (headSpec wsX8_openItems rm_X8_openItems).room s m args below meth c H locs 0 0 (MQ below (va_Qi Q (hh_B D hh_cl hc_Y cy ad) (hh_A hc_Y ad)) args s 0 0 (hh_A hc_Y ad)) (F0 m 4 ls []) := by
    intro n
    induction n with
    | zero => intro x1 x2 σ H locs ls hq h hl; exact hq.elim
    | succ n ih =>
      intro x1 x2 σ H locs ls hq h hl
      have hq : wq_X8_openItems_4 Q (hh_lp2 (wq_X8_openItems_4 Q) n) x1 x2 σ := hq
      unfold wq_X8_openItems_4 at hq
      refine lv_iload_n hx hb1 dX8_openItems_4 rfl (lv_at hl 2 rfl) ?_
      refine lv_aload_n hx hb1 dX8_openItems_5 rfl (lv_at hl 0 rfl) ?_
      refine hh_getr X h fc_0_2 in_X8_openItems_X8 kc_0 (by decide) (List.mem_of_getElem? (i := 1) rfl) rfl dX8_openItems_6 ?_
      refine hh_geti X h (q := 256) fc_4_0 rfl in_X8_openItems_X1 kc_4 (by decide) (List.mem_of_getElem? (i := 2) rfl) rfl dX8_openItems_9 ?_
      refine lv_icmp_ge (tgt := 35) hx hb1 dX8_openItems_12 (by decide) (fun c1 => ?_) (fun c1 => ?_)
      · have hq := hq.1 c1
        refine lv_iload_n hx hb1 dX8_openItems_35 rfl (lv_at hl 1 rfl) ?_
        exact hh_iret X h hr hlocks hq dX8_openItems_36
      · have hq := hq.2 c1
        refine lv_aload_n hx hb1 dX8_openItems_15 rfl (lv_at hl 0 rfl) ?_
        refine lv_iload_n hx hb1 dX8_openItems_16 rfl (lv_at hl 2 rfl) ?_
        refine hh_kI h (va_runV (As := [.int x2]) (rest := []) X.1 (ad_X8_isOpen (D := D) l J x2 σ _ hq) (cwV 1 X.1.2.2.2.2 gX8_openItems_X8_isOpen rfl rfl rfl nd_X8_isOpen ⟨Nat.le_of_ble_eq_true rfl, Nat.le_of_ble_eq_true rfl⟩) (hh_preV X h fc_0_0 kc_0 [.int x2]) rfl rfl hl.1 rfl (lv_room (Nat.le_of_ble_eq_true rfl)) dX8_openItems_17 ⟨Nat.le_of_ble_eq_true rfl, Nat.le_of_ble_eq_true rfl⟩) (fun r2 σ3 H locs hq h => ?_)
        refine lv_if_eq (tgt := 29) hx hb1 dX8_openItems_20 (by decide) (fun c4 => ?_) (fun c4 => ?_)
        · have hq := hq.1 c4
          refine lv_iinc (v := (x2 + (1 : Int32))) (lv' := [(2, .int (x2 + (1 : Int32))), (0, .ref (ad 0)), (1, .int x1)]) hx hb1 dX8_openItems_29 hl (k := 2) rfl rfl (by decide) rfl (fun ls hl => ?_)
          refine lv_goto (tgt := 4) hx hb1 dX8_openItems_32 (by decide) ?_
          exact ih x1 (x2 + (1 : Int32)) σ3 _ _ ls hq h (lv_sub hl [1, 2, 0] rfl)
        · have hq := hq.2 c4
          refine lv_iload_n hx hb1 dX8_openItems_23 rfl (lv_at hl 1 rfl) ?_
          refine lv_iconst (v := (1 : Int32)) hx hb1 dX8_openItems_24 (by decide) ?_
          refine lv_iload_n hx hb1 dX8_openItems_25 rfl (lv_at hl 2 rfl) ?_
          refine lv_ishl hx hb1 dX8_openItems_26 ?_
          refine lv_ior hx hb1 dX8_openItems_27 ?_
          refine lv_topi (fun v5 ev5 => ?_)
          have hq := hq v5 ev5
          refine lv_istore_n (lv' := [(1, .int v5), (0, .ref (ad 0)), (2, .int x2)]) hx hb1 dX8_openItems_28 rfl hl (by decide) rfl (fun ls hl => ?_)
          refine lv_iinc (v := (x2 + (1 : Int32))) (lv' := [(2, .int (x2 + (1 : Int32))), (1, .int v5), (0, .ref (ad 0))]) hx hb1 dX8_openItems_29 hl (k := 2) rfl rfl (by decide) rfl (fun ls hl => ?_)
          refine lv_goto (tgt := 4) hx hb1 dX8_openItems_32 (by decide) ?_
          exact ih v5 (x2 + (1 : Int32)) σ3 _ _ ls hq h (lv_sub hl [2, 1, 0] rfl)
  subst hargs
  refine hh_entry (vs := [.ref (ad 0)]) (Nat.le_of_ble_eq_true rfl) (fun ls hl => ?_)
  have hl : lv_has ls 3 [(0, .ref (ad 0))] := hl
  have hq : wp_X8_openItems σ Q := hq
  unfold wp_X8_openItems at hq
  refine lv_iconst (v := (0 : Int32)) hx hb1 dX8_openItems_0 (by decide) ?_
  refine lv_istore_n (lv' := [(1, .int (0 : Int32)), (0, .ref (ad 0))]) hx hb1 dX8_openItems_1 rfl hl (by decide) rfl (fun ls hl => ?_)
  refine lv_iconst (v := (0 : Int32)) hx hb1 dX8_openItems_2 (by decide) ?_
  refine lv_istore_n (lv' := [(2, .int (0 : Int32)), (1, .int (0 : Int32)), (0, .ref (ad 0))]) hx hb1 dX8_openItems_3 rfl hl (by decide) rfl (fun ls hl => ?_)
  obtain ⟨n6, hq⟩ := hq
  exact lt_4 n6 (0 : Int32) (0 : Int32) σ _ _ ls hq h (lv_sub hl [2, 1, 0] rfl)
theorem nd_X8_told : yX8_told.cls = RX8 ∧ yX8_told.cls ≠ "java/lang/invoke/MethodHandle" ∧ yX8_told.cls ≠ "java/lang/invoke/VarHandle" ∧ (parseMethodDescriptor yX8_told.desc).map (fun d => d.parameters.length) = some 1 := by decide +kernel
abbrev rm_X8_told : Room := { frames := 4, cells := 0, slots := 0, locals := 90 }
def wp_X8_told (x1 : Int32) (σ : hh_S) (Q : Int32 → hh_S → Prop) : Prop := ((x1.toInt = 0 → (Q (hh_I σ 64) σ)) ∧ (x1.toInt = 1 → (Q (hh_I σ 128) σ)) ∧ (x1.toInt = 2 → (Q (hh_I σ 256) σ)) ∧ (x1.toInt = 3 → (Q (hh_I σ 320) σ)) ∧ (x1.toInt = 4 → (wp_X8_allAnswers σ (fun (r6 : Int32) (σ7 : hh_S) => (Q r6 σ7)))) ∧ (x1.toInt = 5 → (wp_X8_openItems σ (fun (r9 : Int32) (σ10 : hh_S) => (Q r9 σ10)))) ∧ ((x1.toInt < 0 ∨ 5 < x1.toInt) → (Q (-2 : Int32) σ)))
theorem in_X8_told_X8 : ∀ w ∈ u_ws RX8 TX8 13, w ∈ wsX8_told := fun w h => List.mem_cons_of_mem _ (List.mem_append_left _ (List.mem_append_left _ (List.mem_append_left _ (List.mem_append_left _ (List.mem_append_left _ (List.mem_append_right _ h))))))
theorem in_X8_told_X7 : ∀ w ∈ u_ws RX7 TX7 7, w ∈ wsX8_told := fun w h => List.mem_cons_of_mem _ (List.mem_append_left _ (List.mem_append_left _ (List.mem_append_left _ (List.mem_append_left _ (List.mem_append_right _ h)))))
theorem in_X8_told_X6 : ∀ w ∈ u_ws RX6 TX6 5, w ∈ wsX8_told := fun w h => List.mem_cons_of_mem _ (List.mem_append_left _ (List.mem_append_left _ (List.mem_append_left _ (List.mem_append_right _ h))))
theorem in_X8_told_X1 : ∀ w ∈ u_ws RX1 TX1 7, w ∈ wsX8_told := fun w h => List.mem_cons_of_mem _ (List.mem_append_left _ (List.mem_append_left _ (List.mem_append_right _ h)))
theorem in_X8_told_X0 : ∀ w ∈ u_ws RX0 TX0 4, w ∈ wsX8_told := fun w h => List.mem_cons_of_mem _ (List.mem_append_left _ (List.mem_append_right _ h))
theorem in_X8_told_X2 : ∀ w ∈ u_ws RX2 TX2 9, w ∈ wsX8_told := fun w h => List.mem_cons_of_mem _ (List.mem_append_right _ h)
set_option maxHeartbeats 4000000 in
set_option maxRecDepth 100000 in
theorem ad_X8_told {D : va_G} (l : Launch) {cy : Nat → ClassId} {ad : Nat → Nat} (J : hh_J hc_Y ad) (x1 : Int32) (σ : hh_S) (Q : Int32 → hh_S → Prop) (hq : wp_X8_told x1 σ Q) : Met l yX8_told wsX8_told rm_X8_told (va_Pc [.ref (ad 0), .int x1] (hh_B D hh_cl hc_Y cy ad σ)) (va_Qi Q (hh_B D hh_cl hc_Y cy ad) (hh_A hc_Y ad)) 0 0 (hh_A hc_Y ad) := by
  refine Met.ofW (cc := cX8_told) (maxL := 2) (ret := (some .int)) (by decide) rfl ?_
  intro p e s m args below meth c s₁ B hml hv
  obtain ⟨hargs, hP0, hK0⟩ := hv
  have hr := B.returns
  have hlocks := B.notSynchronized
  have X : hh_X p m c cX8_told 2 s args wsX8_told RX8 D hh_cl hc_Y cy ad := ⟨⟨B.exec, B.bytes, hml, findClass_of_methodNamed B.named, atoms_spec (ws := wsX8_told) B.pre⟩, hK0, J⟩
  have hx := X.1.1
  have hb1 := X.1.2.1
  have h : hh_H D hh_cl hc_Y cy ad s.heap σ s.heap [] := ⟨hP0, va_S.rf⟩
  subst hargs
  refine hh_entry (vs := [.ref (ad 0), .int x1]) (Nat.le_of_ble_eq_true rfl) (fun ls hl => ?_)
  have hl : lv_has ls 2 [(0, .ref (ad 0)), (1, .int x1)] := hl
  have hq : wp_X8_told x1 σ Q := hq
  unfold wp_X8_told at hq
  refine lv_iload_n hx hb1 dX8_told_0 rfl (lv_at hl 1 rfl) ?_
  by_cases c1 : x1.toInt = 0
  · have hq := hq.1 c1
    refine hh_tabIn X (off := 39) (tgt := 40) 0 dX8_told_1 c1 (by decide) (by decide) (by decide) (by decide) ?_
    refine lv_aload_n hx hb1 dX8_told_40 rfl (lv_at hl 0 rfl) ?_
    refine hh_getr X h fc_0_0 in_X8_told_X8 kc_0 (by decide) (List.mem_of_getElem? (i := 1) rfl) rfl dX8_told_41 ?_
    refine hh_geti X h (q := 64) fc_1_0 rfl in_X8_told_X7 kc_1 (by decide) (List.mem_of_getElem? (i := 2) rfl) rfl dX8_told_44 ?_
    exact hh_iret X h hr hlocks hq dX8_told_47
  have hq := hq.2
  by_cases c2 : x1.toInt = 1
  · have hq := hq.1 c2
    refine hh_tabIn X (off := 47) (tgt := 48) 1 dX8_told_1 c2 (by decide) (by decide) (by decide) (by decide) ?_
    refine lv_aload_n hx hb1 dX8_told_48 rfl (lv_at hl 0 rfl) ?_
    refine hh_getr X h fc_0_1 in_X8_told_X8 kc_0 (by decide) (List.mem_of_getElem? (i := 3) rfl) rfl dX8_told_49 ?_
    refine hh_geti X h (q := 128) fc_2_0 rfl in_X8_told_X6 kc_2 (by decide) (List.mem_of_getElem? (i := 4) rfl) rfl dX8_told_52 ?_
    exact hh_iret X h hr hlocks hq dX8_told_55
  have hq := hq.2
  by_cases c3 : x1.toInt = 2
  · have hq := hq.1 c3
    refine hh_tabIn X (off := 55) (tgt := 56) 2 dX8_told_1 c3 (by decide) (by decide) (by decide) (by decide) ?_
    refine lv_aload_n hx hb1 dX8_told_56 rfl (lv_at hl 0 rfl) ?_
    refine hh_getr X h fc_0_2 in_X8_told_X8 kc_0 (by decide) (List.mem_of_getElem? (i := 5) rfl) rfl dX8_told_57 ?_
    refine hh_geti X h (q := 256) fc_4_0 rfl in_X8_told_X1 kc_4 (by decide) (List.mem_of_getElem? (i := 6) rfl) rfl dX8_told_60 ?_
    exact hh_iret X h hr hlocks hq dX8_told_63
  have hq := hq.2
  by_cases c4 : x1.toInt = 3
  · have hq := hq.1 c4
    refine hh_tabIn X (off := 63) (tgt := 64) 3 dX8_told_1 c4 (by decide) (by decide) (by decide) (by decide) ?_
    refine lv_aload_n hx hb1 dX8_told_64 rfl (lv_at hl 0 rfl) ?_
    refine hh_getr X h fc_0_3 in_X8_told_X8 kc_0 (by decide) (List.mem_of_getElem? (i := 7) rfl) rfl dX8_told_65 ?_
    refine hh_geti X h (q := 320) fc_5_0 rfl in_X8_told_X0 kc_5 (by decide) (List.mem_of_getElem? (i := 8) rfl) rfl dX8_told_68 ?_
    exact hh_iret X h hr hlocks hq dX8_told_71
  have hq := hq.2
  by_cases c5 : x1.toInt = 4
  · have hq := hq.1 c5
    refine hh_tabIn X (off := 71) (tgt := 72) 4 dX8_told_1 c5 (by decide) (by decide) (by decide) (by decide) ?_
    refine lv_aload_n hx hb1 dX8_told_72 rfl (lv_at hl 0 rfl) ?_
    refine hh_kI h (va_runV (As := []) (rest := []) X.1 (ad_X8_allAnswers (D := D) l J σ _ hq) (cwV 0 X.1.2.2.2.2 gX8_told_X8_allAnswers rfl rfl rfl nd_X8_allAnswers ⟨Nat.le_of_ble_eq_true rfl, Nat.le_of_ble_eq_true rfl⟩) (hh_preV X h fc_0_0 kc_0 []) rfl rfl hl.1 rfl (lv_room (Nat.le_of_ble_eq_true rfl)) dX8_told_73 ⟨Nat.le_of_ble_eq_true rfl, Nat.le_of_ble_eq_true rfl⟩) (fun r6 σ7 H locs hq h => ?_)
    exact hh_iret X h hr hlocks hq dX8_told_76
  have hq := hq.2
  by_cases c8 : x1.toInt = 5
  · have hq := hq.1 c8
    refine hh_tabIn X (off := 76) (tgt := 77) 5 dX8_told_1 c8 (by decide) (by decide) (by decide) (by decide) ?_
    refine lv_aload_n hx hb1 dX8_told_77 rfl (lv_at hl 0 rfl) ?_
    refine hh_kI h (va_runV (As := []) (rest := []) X.1 (ad_X8_openItems (D := D) l J σ _ hq) (cwV 0 X.1.2.2.2.2 gX8_told_X8_openItems rfl rfl rfl nd_X8_openItems ⟨Nat.le_of_ble_eq_true rfl, Nat.le_of_ble_eq_true rfl⟩) (hh_preV X h fc_0_0 kc_0 []) rfl rfl hl.1 rfl (lv_room (Nat.le_of_ble_eq_true rfl)) dX8_told_78 ⟨Nat.le_of_ble_eq_true rfl, Nat.le_of_ble_eq_true rfl⟩) (fun r9 σ10 H locs hq h => ?_)
    exact hh_iret X h hr hlocks hq dX8_told_81
  have hq := hq.2
  have c11 := hh_out5 c1 c2 c3 c4 c5 c8
  have hq := hq c11
  refine hh_tabOut X (tgt := 82) dX8_told_1 c11 (by decide) ?_
  refine lv_bipush (v := (-2 : Int32)) hx hb1 dX8_told_82 (by decide) ?_
  exact hh_iret X h hr hlocks hq dX8_told_84
