theorem nd_X8_say : yX8_say.cls = RX8 ∧ yX8_say.cls ≠ "java/lang/invoke/MethodHandle" ∧ yX8_say.cls ≠ "java/lang/invoke/VarHandle" ∧ (parseMethodDescriptor yX8_say.desc).map (fun d => d.parameters.length) = some 1 := by decide +kernel
abbrev rm_X8_say : Room := { frames := 1, cells := 0, slots := 0, locals := 21 }
def wp_X8_say (x1 : Int32) (σ : hh_S) (Q : Int32 → hh_S → Prop) : Prop := ((x1 < (33 : Int32) → (Q (-2 : Int32) σ)) ∧ (¬ x1 < (33 : Int32) → ((x1 ≤ (126 : Int32) → (wp_X7_add x1 σ (fun (r3 : Int32) (σ4 : hh_S) => ((r3 = 0 → (Q (-4 : Int32) σ4)) ∧ (¬ r3 = 0 → (Q (hh_I σ4 64) σ4)))))) ∧ (¬ x1 ≤ (126 : Int32) → (Q (-2 : Int32) σ)))))
theorem in_X8_say_X8 : ∀ w ∈ u_ws RX8 TX8 13, w ∈ wsX8_say := fun w h => List.mem_cons_of_mem _ (List.mem_append_left _ (List.mem_append_right _ h))
theorem in_X8_say_X7 : ∀ w ∈ u_ws RX7 TX7 7, w ∈ wsX8_say := fun w h => List.mem_cons_of_mem _ (List.mem_append_right _ h)
set_option maxHeartbeats 4000000 in
set_option maxRecDepth 100000 in
theorem ad_X8_say {D : va_G} (l : Launch) {cy : Nat → ClassId} {ad : Nat → Nat} (J : hh_J hc_Y ad) (x1 : Int32) (σ : hh_S) (Q : Int32 → hh_S → Prop) (hq : wp_X8_say x1 σ Q) : Met l yX8_say wsX8_say rm_X8_say (va_Pc [.ref (ad 0), .int x1] (hh_B D hh_cl hc_Y cy ad σ)) (va_Qi Q (hh_B D hh_cl hc_Y cy ad) (hh_A hc_Y ad)) 0 0 (hh_A hc_Y ad) := by
  refine Met.ofW (cc := cX8_say) (maxL := 2) (ret := (some .int)) (by decide) rfl ?_
  intro p e s m args below meth c s₁ B hml hv
  obtain ⟨hargs, hP0, hK0⟩ := hv
  have hr := B.returns
  have hlocks := B.notSynchronized
  have X : hh_X p m c cX8_say 2 s args wsX8_say RX8 D hh_cl hc_Y cy ad := ⟨⟨B.exec, B.bytes, hml, findClass_of_methodNamed B.named, atoms_spec (ws := wsX8_say) B.pre⟩, hK0, J⟩
  have hx := X.1.1
  have hb1 := X.1.2.1
  have h : hh_H D hh_cl hc_Y cy ad s.heap σ s.heap [] := ⟨hP0, va_S.rf⟩
  subst hargs
  refine hh_entry (vs := [.ref (ad 0), .int x1]) (Nat.le_of_ble_eq_true rfl) (fun ls hl => ?_)
  have hl : lv_has ls 2 [(0, .ref (ad 0)), (1, .int x1)] := hl
  have hq : wp_X8_say x1 σ Q := hq
  unfold wp_X8_say at hq
  refine lv_iload_n hx hb1 dX8_say_0 rfl (lv_at hl 1 rfl) ?_
  refine lv_bipush (v := (33 : Int32)) hx hb1 dX8_say_1 (by decide) ?_
  refine lv_icmp_lt (tgt := 12) hx hb1 dX8_say_3 (by decide) (fun c1 => ?_) (fun c1 => ?_)
  · have hq := hq.1 c1
    refine lv_bipush (v := (-2 : Int32)) hx hb1 dX8_say_12 (by decide) ?_
    exact hh_iret X h hr hlocks hq dX8_say_14
  · have hq := hq.2 c1
    refine lv_iload_n hx hb1 dX8_say_6 rfl (lv_at hl 1 rfl) ?_
    refine lv_bipush (v := (126 : Int32)) hx hb1 dX8_say_7 (by decide) ?_
    refine lv_icmp_le (tgt := 15) hx hb1 dX8_say_9 (by decide) (fun c2 => ?_) (fun c2 => ?_)
    · have hq := hq.1 c2
      refine lv_aload_n hx hb1 dX8_say_15 rfl (lv_at hl 0 rfl) ?_
      refine hh_getr X h fc_0_0 in_X8_say_X8 kc_0 (by decide) (List.mem_of_getElem? (i := 1) rfl) rfl dX8_say_16 ?_
      refine lv_iload_n hx hb1 dX8_say_19 rfl (lv_at hl 1 rfl) ?_
      refine hh_kI h (va_runV (As := [.int x1]) (rest := []) X.1 (ad_X7_add (D := D) l J x1 σ _ hq) (cwV 1 X.1.2.2.2.2 gX8_say_X7_add rfl rfl rfl nd_X7_add ⟨Nat.le_of_ble_eq_true rfl, Nat.le_of_ble_eq_true rfl⟩) (hh_preV X h fc_1_0 kc_1 [.int x1]) rfl rfl hl.1 rfl (lv_room (Nat.le_of_ble_eq_true rfl)) dX8_say_20 ⟨Nat.le_of_ble_eq_true rfl, Nat.le_of_ble_eq_true rfl⟩) (fun r3 σ4 H locs hq h => ?_)
      refine lv_if_eq (tgt := 36) hx hb1 dX8_say_23 (by decide) (fun c5 => ?_) (fun c5 => ?_)
      · have hq := hq.1 c5
        refine lv_bipush (v := (-4 : Int32)) hx hb1 dX8_say_36 (by decide) ?_
        exact hh_iret X h hr hlocks hq dX8_say_38
      · have hq := hq.2 c5
        refine lv_aload_n hx hb1 dX8_say_26 rfl (lv_at hl 0 rfl) ?_
        refine hh_getr X h fc_0_0 in_X8_say_X8 kc_0 (by decide) (List.mem_of_getElem? (i := 1) rfl) rfl dX8_say_27 ?_
        refine hh_geti X h (q := 64) fc_1_0 rfl in_X8_say_X7 kc_1 (by decide) (List.mem_of_getElem? (i := 2) rfl) rfl dX8_say_30 ?_
        refine lv_goto (tgt := 38) hx hb1 dX8_say_33 (by decide) ?_
        exact hh_iret X h hr hlocks hq dX8_say_38
    · have hq := hq.2 c2
      refine lv_bipush (v := (-2 : Int32)) hx hb1 dX8_say_12 (by decide) ?_
      exact hh_iret X h hr hlocks hq dX8_say_14
theorem nd_X8_wipe : yX8_wipe.cls = RX8 ∧ yX8_wipe.cls ≠ "java/lang/invoke/MethodHandle" ∧ yX8_wipe.cls ≠ "java/lang/invoke/VarHandle" ∧ (parseMethodDescriptor yX8_wipe.desc).map (fun d => d.parameters.length) = some 0 := by decide +kernel
abbrev rm_X8_wipe : Room := { frames := 0, cells := 0, slots := 0, locals := 0 }
def wp_X8_wipe (σ : hh_S) (Q : Int32 → hh_S → Prop) : Prop := (∀ v1 : Int32, v1 = (hh_I σ 64) → (∀ σ2 : hh_S, σ2 = hh_uI σ 64 (0 : Int32) → (Q v1 σ2)))
theorem in_X8_wipe_X8 : ∀ w ∈ u_ws RX8 TX8 13, w ∈ wsX8_wipe := fun w h => List.mem_cons_of_mem _ (List.mem_append_left _ (List.mem_append_right _ h))
theorem in_X8_wipe_X7 : ∀ w ∈ u_ws RX7 TX7 7, w ∈ wsX8_wipe := fun w h => List.mem_cons_of_mem _ (List.mem_append_right _ h)
set_option maxHeartbeats 4000000 in
set_option maxRecDepth 100000 in
theorem ad_X8_wipe {D : va_G} (l : Launch) {cy : Nat → ClassId} {ad : Nat → Nat} (J : hh_J hc_Y ad) (σ : hh_S) (Q : Int32 → hh_S → Prop) (hq : wp_X8_wipe σ Q) : Met l yX8_wipe wsX8_wipe rm_X8_wipe (va_Pc [.ref (ad 0)] (hh_B D hh_cl hc_Y cy ad σ)) (va_Qi Q (hh_B D hh_cl hc_Y cy ad) (hh_A hc_Y ad)) 0 0 (hh_A hc_Y ad) := by
  refine Met.ofW (cc := cX8_wipe) (maxL := 2) (ret := (some .int)) (by decide) rfl ?_
  intro p e s m args below meth c s₁ B hml hv
  obtain ⟨hargs, hP0, hK0⟩ := hv
  have hr := B.returns
  have hlocks := B.notSynchronized
  have X : hh_X p m c cX8_wipe 2 s args wsX8_wipe RX8 D hh_cl hc_Y cy ad := ⟨⟨B.exec, B.bytes, hml, findClass_of_methodNamed B.named, atoms_spec (ws := wsX8_wipe) B.pre⟩, hK0, J⟩
  have hx := X.1.1
  have hb1 := X.1.2.1
  have h : hh_H D hh_cl hc_Y cy ad s.heap σ s.heap [] := ⟨hP0, va_S.rf⟩
  subst hargs
  refine hh_entry (vs := [.ref (ad 0)]) (Nat.le_of_ble_eq_true rfl) (fun ls hl => ?_)
  have hl : lv_has ls 2 [(0, .ref (ad 0))] := hl
  have hq : wp_X8_wipe σ Q := hq
  unfold wp_X8_wipe at hq
  refine lv_aload_n hx hb1 dX8_wipe_0 rfl (lv_at hl 0 rfl) ?_
  refine hh_getr X h fc_0_0 in_X8_wipe_X8 kc_0 (by decide) (List.mem_of_getElem? (i := 1) rfl) rfl dX8_wipe_1 ?_
  refine hh_geti X h (q := 64) fc_1_0 rfl in_X8_wipe_X7 kc_1 (by decide) (List.mem_of_getElem? (i := 2) rfl) rfl dX8_wipe_4 ?_
  refine lv_topi (fun v1 ev1 => ?_)
  have hq := hq v1 ev1
  refine lv_istore_n (lv' := [(1, .int v1), (0, .ref (ad 0))]) hx hb1 dX8_wipe_7 rfl hl (by decide) rfl (fun ls hl => ?_)
  refine lv_aload_n hx hb1 dX8_wipe_8 rfl (lv_at hl 1 rfl) ?_
  refine hh_getr X h fc_0_0 in_X8_wipe_X8 kc_0 (by decide) (List.mem_of_getElem? (i := 1) rfl) rfl dX8_wipe_9 ?_
  refine lv_iconst (v := (0 : Int32)) hx hb1 dX8_wipe_12 (by decide) ?_
  refine hh_puti X h (q := 64) hc_n fc_1_0 rfl in_X8_wipe_X7 kc_1 tyX7 tyX7_ok nmX7 (by decide) (List.mem_of_getElem? (i := 2) rfl) rfl rfl rfl rfl dX8_wipe_13 (fun σ2 H locs eσ2 h => ?_)
  have hq := hq σ2 eσ2
  refine lv_iload_n hx hb1 dX8_wipe_16 rfl (lv_at hl 0 rfl) ?_
  exact hh_iret X h hr hlocks hq dX8_wipe_17
theorem nd_X8_fault : yX8_fault.cls = RX8 ∧ yX8_fault.cls ≠ "java/lang/invoke/MethodHandle" ∧ yX8_fault.cls ≠ "java/lang/invoke/VarHandle" ∧ (parseMethodDescriptor yX8_fault.desc).map (fun d => d.parameters.length) = some 0 := by decide +kernel
abbrev rm_X8_fault : Room := { frames := 4, cells := 0, slots := 0, locals := 87 }
def wp_X8_fault (σ : hh_S) (Q : Int32 → hh_S → Prop) : Prop := (wp_X7_read σ (fun (r1 : Int32) (σ2 : hh_S) => (Q r1 σ2)))
theorem in_X8_fault_X8 : ∀ w ∈ u_ws RX8 TX8 13, w ∈ wsX8_fault := fun w h => List.mem_cons_of_mem _ (List.mem_append_left _ (List.mem_append_left _ (List.mem_append_right _ h)))
theorem in_X8_fault_X7 : ∀ w ∈ u_ws RX7 TX7 7, w ∈ wsX8_fault := fun w h => List.mem_cons_of_mem _ (List.mem_append_left _ (List.mem_append_right _ h))
theorem in_X8_fault_X6 : ∀ w ∈ u_ws RX6 TX6 5, w ∈ wsX8_fault := fun w h => List.mem_cons_of_mem _ (List.mem_append_right _ h)
set_option maxHeartbeats 4000000 in
set_option maxRecDepth 100000 in
theorem ad_X8_fault {D : va_G} (l : Launch) {cy : Nat → ClassId} {ad : Nat → Nat} (J : hh_J hc_Y ad) (σ : hh_S) (Q : Int32 → hh_S → Prop) (hq : wp_X8_fault σ Q) : Met l yX8_fault wsX8_fault rm_X8_fault (va_Pc [.ref (ad 0)] (hh_B D hh_cl hc_Y cy ad σ)) (va_Qi Q (hh_B D hh_cl hc_Y cy ad) (hh_A hc_Y ad)) 0 0 (hh_A hc_Y ad) := by
  refine Met.ofW (cc := cX8_fault) (maxL := 1) (ret := (some .int)) (by decide) rfl ?_
  intro p e s m args below meth c s₁ B hml hv
  obtain ⟨hargs, hP0, hK0⟩ := hv
  have hr := B.returns
  have hlocks := B.notSynchronized
  have X : hh_X p m c cX8_fault 1 s args wsX8_fault RX8 D hh_cl hc_Y cy ad := ⟨⟨B.exec, B.bytes, hml, findClass_of_methodNamed B.named, atoms_spec (ws := wsX8_fault) B.pre⟩, hK0, J⟩
  have hx := X.1.1
  have hb1 := X.1.2.1
  have h : hh_H D hh_cl hc_Y cy ad s.heap σ s.heap [] := ⟨hP0, va_S.rf⟩
  subst hargs
  refine hh_entry (vs := [.ref (ad 0)]) (Nat.le_of_ble_eq_true rfl) (fun ls hl => ?_)
  have hl : lv_has ls 1 [(0, .ref (ad 0))] := hl
  have hq : wp_X8_fault σ Q := hq
  unfold wp_X8_fault at hq
  refine lv_aload_n hx hb1 dX8_fault_0 rfl (lv_at hl 0 rfl) ?_
  refine hh_getr X h fc_0_0 in_X8_fault_X8 kc_0 (by decide) (List.mem_of_getElem? (i := 1) rfl) rfl dX8_fault_1 ?_
  refine hh_kI h (va_runV (As := []) (rest := []) X.1 (ad_X7_read (D := D) l J σ _ hq) (cwV 0 X.1.2.2.2.2 gX8_fault_X7_read rfl rfl rfl nd_X7_read ⟨Nat.le_of_ble_eq_true rfl, Nat.le_of_ble_eq_true rfl⟩) (hh_preV X h fc_1_0 kc_1 []) rfl rfl hl.1 rfl (lv_room (Nat.le_of_ble_eq_true rfl)) dX8_fault_4 ⟨Nat.le_of_ble_eq_true rfl, Nat.le_of_ble_eq_true rfl⟩) (fun r1 σ2 H locs hq h => ?_)
  exact hh_iret X h hr hlocks hq dX8_fault_7
theorem nd_X8_task : yX8_task.cls = RX8 ∧ yX8_task.cls ≠ "java/lang/invoke/MethodHandle" ∧ yX8_task.cls ≠ "java/lang/invoke/VarHandle" ∧ (parseMethodDescriptor yX8_task.desc).map (fun d => d.parameters.length) = some 0 := by decide +kernel
abbrev rm_X8_task : Room := { frames := 4, cells := 0, slots := 0, locals := 87 }
def wp_X8_task (σ : hh_S) (Q : Int32 → hh_S → Prop) : Prop := (wp_X7_read σ (fun (r1 : Int32) (σ2 : hh_S) => ((r1 = (-6 : Int32) → (wp_X6_copy σ2 (fun (σ5 : hh_S) => (∀ σ6 : hh_S, σ6 = hh_uI σ5 64 (0 : Int32) → (∀ σ7 : hh_S, σ7 = hh_uI σ6 256 (0 : Int32) → (∀ σ8 : hh_S, σ8 = hh_uI σ7 320 (0 : Int32) → (∀ σ9 : hh_S, σ9 = hh_uI σ8 9 (-1 : Int32) → (Q (hh_I σ9 128) σ9)))))))) ∧ (¬ r1 = (-6 : Int32) → (Q (-5 : Int32) σ2)))))
theorem in_X8_task_X8 : ∀ w ∈ u_ws RX8 TX8 13, w ∈ wsX8_task := fun w h => List.mem_cons_of_mem _ (List.mem_append_left _ (List.mem_append_left _ (List.mem_append_left _ (List.mem_append_left _ (List.mem_append_right _ h)))))
theorem in_X8_task_X7 : ∀ w ∈ u_ws RX7 TX7 7, w ∈ wsX8_task := fun w h => List.mem_cons_of_mem _ (List.mem_append_left _ (List.mem_append_left _ (List.mem_append_left _ (List.mem_append_right _ h))))
theorem in_X8_task_X1 : ∀ w ∈ u_ws RX1 TX1 7, w ∈ wsX8_task := fun w h => List.mem_cons_of_mem _ (List.mem_append_left _ (List.mem_append_left _ (List.mem_append_right _ h)))
theorem in_X8_task_X0 : ∀ w ∈ u_ws RX0 TX0 4, w ∈ wsX8_task := fun w h => List.mem_cons_of_mem _ (List.mem_append_left _ (List.mem_append_right _ h))
theorem in_X8_task_X6 : ∀ w ∈ u_ws RX6 TX6 5, w ∈ wsX8_task := fun w h => List.mem_cons_of_mem _ (List.mem_append_right _ h)
set_option maxHeartbeats 4000000 in
set_option maxRecDepth 100000 in
theorem ad_X8_task {D : va_G} (l : Launch) {cy : Nat → ClassId} {ad : Nat → Nat} (J : hh_J hc_Y ad) (σ : hh_S) (Q : Int32 → hh_S → Prop) (hq : wp_X8_task σ Q) : Met l yX8_task wsX8_task rm_X8_task (va_Pc [.ref (ad 0)] (hh_B D hh_cl hc_Y cy ad σ)) (va_Qi Q (hh_B D hh_cl hc_Y cy ad) (hh_A hc_Y ad)) 0 0 (hh_A hc_Y ad) := by
  refine Met.ofW (cc := cX8_task) (maxL := 1) (ret := (some .int)) (by decide) rfl ?_
  intro p e s m args below meth c s₁ B hml hv
  obtain ⟨hargs, hP0, hK0⟩ := hv
  have hr := B.returns
  have hlocks := B.notSynchronized
  have X : hh_X p m c cX8_task 1 s args wsX8_task RX8 D hh_cl hc_Y cy ad := ⟨⟨B.exec, B.bytes, hml, findClass_of_methodNamed B.named, atoms_spec (ws := wsX8_task) B.pre⟩, hK0, J⟩
  have hx := X.1.1
  have hb1 := X.1.2.1
  have h : hh_H D hh_cl hc_Y cy ad s.heap σ s.heap [] := ⟨hP0, va_S.rf⟩
  subst hargs
  refine hh_entry (vs := [.ref (ad 0)]) (Nat.le_of_ble_eq_true rfl) (fun ls hl => ?_)
  have hl : lv_has ls 1 [(0, .ref (ad 0))] := hl
  have hq : wp_X8_task σ Q := hq
  unfold wp_X8_task at hq
  refine lv_aload_n hx hb1 dX8_task_0 rfl (lv_at hl 0 rfl) ?_
  refine hh_getr X h fc_0_0 in_X8_task_X8 kc_0 (by decide) (List.mem_of_getElem? (i := 1) rfl) rfl dX8_task_1 ?_
  refine hh_kI h (va_runV (As := []) (rest := []) X.1 (ad_X7_read (D := D) l J σ _ hq) (cwV 0 X.1.2.2.2.2 gX8_task_X7_read rfl rfl rfl nd_X7_read ⟨Nat.le_of_ble_eq_true rfl, Nat.le_of_ble_eq_true rfl⟩) (hh_preV X h fc_1_0 kc_1 []) rfl rfl hl.1 rfl (lv_room (Nat.le_of_ble_eq_true rfl)) dX8_task_4 ⟨Nat.le_of_ble_eq_true rfl, Nat.le_of_ble_eq_true rfl⟩) (fun r1 σ2 H locs hq h => ?_)
  refine lv_bipush (v := (-6 : Int32)) hx hb1 dX8_task_7 (by decide) ?_
  refine lv_icmp_eq (tgt := 15) hx hb1 dX8_task_9 (by decide) (fun c3 => ?_) (fun c3 => ?_)
  · have hq := hq.1 c3
    refine lv_aload_n hx hb1 dX8_task_15 rfl (lv_at hl 0 rfl) ?_
    refine hh_getr X h fc_0_1 in_X8_task_X8 kc_0 (by decide) (List.mem_of_getElem? (i := 2) rfl) rfl dX8_task_16 ?_
    refine lv_aload_n hx hb1 dX8_task_19 rfl (lv_at hl 0 rfl) ?_
    refine hh_getr X h fc_0_0 in_X8_task_X8 kc_0 (by decide) (List.mem_of_getElem? (i := 1) rfl) rfl dX8_task_20 ?_
    refine hh_getr X h fc_1_1 in_X8_task_X7 kc_1 (by decide) (List.mem_of_getElem? (i := 3) rfl) rfl dX8_task_23 ?_
    refine hh_kV h (va_runV (As := [.ref (ad 3)]) (rest := []) X.1 (ad_X6_copy (D := D) l J σ2 _ hq) (cwV 1 X.1.2.2.2.2 gX8_task_X6_copy rfl rfl rfl nd_X6_copy ⟨Nat.le_of_ble_eq_true rfl, Nat.le_of_ble_eq_true rfl⟩) (hh_preV X h fc_2_0 kc_2 [.ref (ad 3)]) rfl rfl hl.1 rfl (lv_room (Nat.le_of_ble_eq_true rfl)) dX8_task_26 ⟨Nat.le_of_ble_eq_true rfl, Nat.le_of_ble_eq_true rfl⟩) (fun σ5 H locs hq h => ?_)
    refine lv_aload_n hx hb1 dX8_task_29 rfl (lv_at hl 0 rfl) ?_
    refine hh_getr X h fc_0_0 in_X8_task_X8 kc_0 (by decide) (List.mem_of_getElem? (i := 1) rfl) rfl dX8_task_30 ?_
    refine lv_iconst (v := (0 : Int32)) hx hb1 dX8_task_33 (by decide) ?_
    refine hh_puti X h (q := 64) hc_n fc_1_0 rfl in_X8_task_X7 kc_1 tyX7 tyX7_ok nmX7 (by decide) (List.mem_of_getElem? (i := 4) rfl) rfl rfl rfl rfl dX8_task_34 (fun σ6 H locs eσ6 h => ?_)
    have hq := hq σ6 eσ6
    refine lv_aload_n hx hb1 dX8_task_37 rfl (lv_at hl 0 rfl) ?_
    refine hh_getr X h fc_0_2 in_X8_task_X8 kc_0 (by decide) (List.mem_of_getElem? (i := 5) rfl) rfl dX8_task_38 ?_
    refine lv_iconst (v := (0 : Int32)) hx hb1 dX8_task_41 (by decide) ?_
    refine hh_puti X h (q := 256) hc_n fc_4_0 rfl in_X8_task_X1 kc_4 tyX1 tyX1_ok nmX1 (by decide) (List.mem_of_getElem? (i := 6) rfl) rfl rfl rfl rfl dX8_task_42 (fun σ7 H locs eσ7 h => ?_)
    have hq := hq σ7 eσ7
    refine lv_aload_n hx hb1 dX8_task_45 rfl (lv_at hl 0 rfl) ?_
    refine hh_getr X h fc_0_3 in_X8_task_X8 kc_0 (by decide) (List.mem_of_getElem? (i := 7) rfl) rfl dX8_task_46 ?_
    refine lv_iconst (v := (0 : Int32)) hx hb1 dX8_task_49 (by decide) ?_
    refine hh_puti X h (q := 320) hc_n fc_5_0 rfl in_X8_task_X0 kc_5 tyX0 tyX0_ok nmX0 (by decide) (List.mem_of_getElem? (i := 8) rfl) rfl rfl rfl rfl dX8_task_50 (fun σ8 H locs eσ8 h => ?_)
    have hq := hq σ8 eσ8
    refine lv_aload_n hx hb1 dX8_task_53 rfl (lv_at hl 0 rfl) ?_
    refine lv_iconst (v := (-1 : Int32)) hx hb1 dX8_task_54 (by decide) ?_
    refine hh_puti X h (q := 9) hc_n fc_0_9 rfl in_X8_task_X8 kc_0 tyX8 tyX8_ok nmX8 (by decide) (List.mem_of_getElem? (i := 9) rfl) rfl rfl rfl rfl dX8_task_55 (fun σ9 H locs eσ9 h => ?_)
    have hq := hq σ9 eσ9
    refine lv_aload_n hx hb1 dX8_task_58 rfl (lv_at hl 0 rfl) ?_
    refine hh_getr X h fc_0_1 in_X8_task_X8 kc_0 (by decide) (List.mem_of_getElem? (i := 2) rfl) rfl dX8_task_59 ?_
    refine hh_geti X h (q := 128) fc_2_0 rfl in_X8_task_X6 kc_2 (by decide) (List.mem_of_getElem? (i := 10) rfl) rfl dX8_task_62 ?_
    exact hh_iret X h hr hlocks hq dX8_task_65
  · have hq := hq.2 c3
    refine lv_bipush (v := (-5 : Int32)) hx hb1 dX8_task_12 (by decide) ?_
    exact hh_iret X h hr hlocks hq dX8_task_14
theorem nd_X8_step : yX8_step.cls = RX8 ∧ yX8_step.cls ≠ "java/lang/invoke/MethodHandle" ∧ yX8_step.cls ≠ "java/lang/invoke/VarHandle" ∧ (parseMethodDescriptor yX8_step.desc).map (fun d => d.parameters.length) = some 2 := by decide +kernel
abbrev rm_X8_step : Room := { frames := 1, cells := 0, slots := 0, locals := 21 }
def wp_X8_step (x1 : Int32) (x2 : Int32) (σ : hh_S) (Q : Int32 → hh_S → Prop) : Prop := (wp_X6_has x1 σ (fun (r1 : Int32) (σ2 : hh_S) => ((¬ r1 = 0 → ((x2.toInt = 0 → (vp_in x1 8 ∧ (Q (hh_rA σ2 11 x1) σ2))) ∧ (x2.toInt = 1 → (vp_in x1 8 ∧ (Q (hh_rA σ2 12 x1) σ2))) ∧ (x2.toInt = 2 → (vp_in x1 8 ∧ (Q (hh_rA σ2 13 x1) σ2))) ∧ (x2.toInt = 3 → (vp_in x1 8 ∧ (Q (hh_rA σ2 14 x1) σ2))) ∧ ((x2.toInt < 0 ∨ 3 < x2.toInt) → (Q (-2 : Int32) σ2)))) ∧ (r1 = 0 → (Q (-1 : Int32) σ2)))))
theorem in_X8_step_X8 : ∀ w ∈ u_ws RX8 TX8 13, w ∈ wsX8_step := fun w h => List.mem_cons_of_mem _ (List.mem_append_left _ (List.mem_append_right _ h))
theorem in_X8_step_X6 : ∀ w ∈ u_ws RX6 TX6 5, w ∈ wsX8_step := fun w h => List.mem_cons_of_mem _ (List.mem_append_right _ h)
set_option maxHeartbeats 4000000 in
set_option maxRecDepth 100000 in
theorem ad_X8_step {D : va_G} (l : Launch) {cy : Nat → ClassId} {ad : Nat → Nat} (J : hh_J hc_Y ad) (x1 : Int32) (x2 : Int32) (σ : hh_S) (Q : Int32 → hh_S → Prop) (hq : wp_X8_step x1 x2 σ Q) : Met l yX8_step wsX8_step rm_X8_step (va_Pc [.ref (ad 0), .int x1, .int x2] (hh_B D hh_cl hc_Y cy ad σ)) (va_Qi Q (hh_B D hh_cl hc_Y cy ad) (hh_A hc_Y ad)) 0 0 (hh_A hc_Y ad) := by
  refine Met.ofW (cc := cX8_step) (maxL := 3) (ret := (some .int)) (by decide) rfl ?_
  intro p e s m args below meth c s₁ B hml hv
  obtain ⟨hargs, hP0, hK0⟩ := hv
  have hr := B.returns
  have hlocks := B.notSynchronized
  have X : hh_X p m c cX8_step 3 s args wsX8_step RX8 D hh_cl hc_Y cy ad := ⟨⟨B.exec, B.bytes, hml, findClass_of_methodNamed B.named, atoms_spec (ws := wsX8_step) B.pre⟩, hK0, J⟩
  have hx := X.1.1
  have hb1 := X.1.2.1
  have h : hh_H D hh_cl hc_Y cy ad s.heap σ s.heap [] := ⟨hP0, va_S.rf⟩
  subst hargs
  refine hh_entry (vs := [.ref (ad 0), .int x1, .int x2]) (Nat.le_of_ble_eq_true rfl) (fun ls hl => ?_)
  have hl : lv_has ls 3 [(0, .ref (ad 0)), (1, .int x1), (2, .int x2)] := hl
  have hq : wp_X8_step x1 x2 σ Q := hq
  unfold wp_X8_step at hq
  refine lv_aload_n hx hb1 dX8_step_0 rfl (lv_at hl 0 rfl) ?_
  refine hh_getr X h fc_0_1 in_X8_step_X8 kc_0 (by decide) (List.mem_of_getElem? (i := 1) rfl) rfl dX8_step_1 ?_
  refine lv_iload_n hx hb1 dX8_step_4 rfl (lv_at hl 1 rfl) ?_
  refine hh_kI h (va_runV (As := [.int x1]) (rest := []) X.1 (ad_X6_has (D := D) l J x1 σ _ hq) (cwV 1 X.1.2.2.2.2 gX8_step_X6_has rfl rfl rfl nd_X6_has ⟨Nat.le_of_ble_eq_true rfl, Nat.le_of_ble_eq_true rfl⟩) (hh_preV X h fc_2_0 kc_2 [.int x1]) rfl rfl hl.1 rfl (lv_room (Nat.le_of_ble_eq_true rfl)) dX8_step_5 ⟨Nat.le_of_ble_eq_true rfl, Nat.le_of_ble_eq_true rfl⟩) (fun r1 σ2 H locs hq h => ?_)
  refine lv_if_ne (tgt := 13) hx hb1 dX8_step_8 (by decide) (fun c3 => ?_) (fun c3 => ?_)
  · have hq := hq.1 c3
    refine lv_iload_n hx hb1 dX8_step_13 rfl (lv_at hl 2 rfl) ?_
    by_cases c4 : x2.toInt = 0
    · have hq := hq.1 c4
      refine hh_tabIn X (off := 30) (tgt := 44) 0 dX8_step_14 c4 (by decide) (by decide) (by decide) (by decide) ?_
      refine lv_aload_n hx hb1 dX8_step_44 rfl (lv_at hl 0 rfl) ?_
      refine hh_getr X h fc_0_1 in_X8_step_X8 kc_0 (by decide) (List.mem_of_getElem? (i := 1) rfl) rfl dX8_step_45 ?_
      refine hh_getr X h fc_2_1 in_X8_step_X6 kc_2 (by decide) (List.mem_of_getElem? (i := 2) rfl) rfl dX8_step_48 ?_
      refine lv_iload_n hx hb1 dX8_step_51 rfl (lv_at hl 1 rfl) ?_
      obtain ⟨h5, hq⟩ := hq
      refine hh_ild X h ac_11 h5 dX8_step_52 ?_
      exact hh_iret X h hr hlocks hq dX8_step_53
    have hq := hq.2
    by_cases c6 : x2.toInt = 1
    · have hq := hq.1 c6
      refine hh_tabIn X (off := 40) (tgt := 54) 1 dX8_step_14 c6 (by decide) (by decide) (by decide) (by decide) ?_
      refine lv_aload_n hx hb1 dX8_step_54 rfl (lv_at hl 0 rfl) ?_
      refine hh_getr X h fc_0_1 in_X8_step_X8 kc_0 (by decide) (List.mem_of_getElem? (i := 1) rfl) rfl dX8_step_55 ?_
      refine hh_getr X h fc_2_2 in_X8_step_X6 kc_2 (by decide) (List.mem_of_getElem? (i := 3) rfl) rfl dX8_step_58 ?_
      refine lv_iload_n hx hb1 dX8_step_61 rfl (lv_at hl 1 rfl) ?_
      obtain ⟨h7, hq⟩ := hq
      refine hh_ild X h ac_12 h7 dX8_step_62 ?_
      exact hh_iret X h hr hlocks hq dX8_step_63
    have hq := hq.2
    by_cases c8 : x2.toInt = 2
    · have hq := hq.1 c8
      refine hh_tabIn X (off := 50) (tgt := 64) 2 dX8_step_14 c8 (by decide) (by decide) (by decide) (by decide) ?_
      refine lv_aload_n hx hb1 dX8_step_64 rfl (lv_at hl 0 rfl) ?_
      refine hh_getr X h fc_0_1 in_X8_step_X8 kc_0 (by decide) (List.mem_of_getElem? (i := 1) rfl) rfl dX8_step_65 ?_
      refine hh_getr X h fc_2_3 in_X8_step_X6 kc_2 (by decide) (List.mem_of_getElem? (i := 4) rfl) rfl dX8_step_68 ?_
      refine lv_iload_n hx hb1 dX8_step_71 rfl (lv_at hl 1 rfl) ?_
      obtain ⟨h9, hq⟩ := hq
      refine hh_ild X h ac_13 h9 dX8_step_72 ?_
      exact hh_iret X h hr hlocks hq dX8_step_73
    have hq := hq.2
    by_cases c10 : x2.toInt = 3
    · have hq := hq.1 c10
      refine hh_tabIn X (off := 60) (tgt := 74) 3 dX8_step_14 c10 (by decide) (by decide) (by decide) (by decide) ?_
      refine lv_aload_n hx hb1 dX8_step_74 rfl (lv_at hl 0 rfl) ?_
      refine hh_getr X h fc_0_1 in_X8_step_X8 kc_0 (by decide) (List.mem_of_getElem? (i := 1) rfl) rfl dX8_step_75 ?_
      refine hh_getr X h fc_2_4 in_X8_step_X6 kc_2 (by decide) (List.mem_of_getElem? (i := 5) rfl) rfl dX8_step_78 ?_
      refine lv_iload_n hx hb1 dX8_step_81 rfl (lv_at hl 1 rfl) ?_
      obtain ⟨h11, hq⟩ := hq
      refine hh_ild X h ac_14 h11 dX8_step_82 ?_
      exact hh_iret X h hr hlocks hq dX8_step_83
    have hq := hq.2
    have c12 := hh_out3 c4 c6 c8 c10
    have hq := hq c12
    refine hh_tabOut X (tgt := 84) dX8_step_14 c12 (by decide) ?_
    refine lv_bipush (v := (-2 : Int32)) hx hb1 dX8_step_84 (by decide) ?_
    exact hh_iret X h hr hlocks hq dX8_step_86
  · have hq := hq.2 c3
    refine lv_iconst (v := (-1 : Int32)) hx hb1 dX8_step_11 (by decide) ?_
    exact hh_iret X h hr hlocks hq dX8_step_12
theorem nd_X8_item : yX8_item.cls = RX8 ∧ yX8_item.cls ≠ "java/lang/invoke/MethodHandle" ∧ yX8_item.cls ≠ "java/lang/invoke/VarHandle" ∧ (parseMethodDescriptor yX8_item.desc).map (fun d => d.parameters.length) = some 2 := by decide +kernel
abbrev rm_X8_item : Room := { frames := 2, cells := 0, slots := 0, locals := 43 }
def wp_X8_item (x1 : Int32) (x2 : Int32) (σ : hh_S) (Q : Int32 → hh_S → Prop) : Prop := (wp_X6_has x1 σ (fun (r1 : Int32) (σ2 : hh_S) => ((¬ r1 = 0 → ((x2 < 0 → (Q (-2 : Int32) σ2)) ∧ (¬ x2 < 0 → ((x2 < (10 : Int32) → (((hh_I σ2 256) < (24 : Int32) → (wp_X1_find x1 x2 σ2 (fun (r7 : Int32) (σ8 : hh_S) => ((r7 = (-6 : Int32) → (vp_in x1 8 ∧ (wp_X1_add x1 x2 (hh_rA σ8 12 x1) σ8 (fun (r11 : Int32) (σ12 : hh_S) => (wp_X2_startAlike 0 r11 σ12 (fun (σ14 : hh_S) => (Q r11 σ14))))))) ∧ (¬ r7 = (-6 : Int32) → (Q (-5 : Int32) σ8)))))) ∧ (¬ (hh_I σ2 256) < (24 : Int32) → (Q (-4 : Int32) σ2)))) ∧ (¬ x2 < (10 : Int32) → (Q (-2 : Int32) σ2)))))) ∧ (r1 = 0 → (Q (-1 : Int32) σ2)))))
theorem in_X8_item_X8 : ∀ w ∈ u_ws RX8 TX8 13, w ∈ wsX8_item := fun w h => List.mem_cons_of_mem _ (List.mem_append_left _ (List.mem_append_left _ (List.mem_append_left _ (List.mem_append_right _ h))))
theorem in_X8_item_X1 : ∀ w ∈ u_ws RX1 TX1 7, w ∈ wsX8_item := fun w h => List.mem_cons_of_mem _ (List.mem_append_left _ (List.mem_append_left _ (List.mem_append_right _ h)))
theorem in_X8_item_X6 : ∀ w ∈ u_ws RX6 TX6 5, w ∈ wsX8_item := fun w h => List.mem_cons_of_mem _ (List.mem_append_left _ (List.mem_append_right _ h))
theorem in_X8_item_X2 : ∀ w ∈ u_ws RX2 TX2 9, w ∈ wsX8_item := fun w h => List.mem_cons_of_mem _ (List.mem_append_right _ h)
set_option maxHeartbeats 4000000 in
set_option maxRecDepth 100000 in
theorem ad_X8_item {D : va_G} (l : Launch) {cy : Nat → ClassId} {ad : Nat → Nat} (J : hh_J hc_Y ad) (x1 : Int32) (x2 : Int32) (σ : hh_S) (Q : Int32 → hh_S → Prop) (hq : wp_X8_item x1 x2 σ Q) : Met l yX8_item wsX8_item rm_X8_item (va_Pc [.ref (ad 0), .int x1, .int x2] (hh_B D hh_cl hc_Y cy ad σ)) (va_Qi Q (hh_B D hh_cl hc_Y cy ad) (hh_A hc_Y ad)) 0 0 (hh_A hc_Y ad) := by
  refine Met.ofW (cc := cX8_item) (maxL := 4) (ret := (some .int)) (by decide) rfl ?_
  intro p e s m args below meth c s₁ B hml hv
  obtain ⟨hargs, hP0, hK0⟩ := hv
  have hr := B.returns
  have hlocks := B.notSynchronized
  have X : hh_X p m c cX8_item 4 s args wsX8_item RX8 D hh_cl hc_Y cy ad := ⟨⟨B.exec, B.bytes, hml, findClass_of_methodNamed B.named, atoms_spec (ws := wsX8_item) B.pre⟩, hK0, J⟩
  have hx := X.1.1
  have hb1 := X.1.2.1
  have h : hh_H D hh_cl hc_Y cy ad s.heap σ s.heap [] := ⟨hP0, va_S.rf⟩
  subst hargs
  refine hh_entry (vs := [.ref (ad 0), .int x1, .int x2]) (Nat.le_of_ble_eq_true rfl) (fun ls hl => ?_)
  have hl : lv_has ls 4 [(0, .ref (ad 0)), (1, .int x1), (2, .int x2)] := hl
  have hq : wp_X8_item x1 x2 σ Q := hq
  unfold wp_X8_item at hq
  refine lv_aload_n hx hb1 dX8_item_0 rfl (lv_at hl 0 rfl) ?_
  refine hh_getr X h fc_0_1 in_X8_item_X8 kc_0 (by decide) (List.mem_of_getElem? (i := 1) rfl) rfl dX8_item_1 ?_
  refine lv_iload_n hx hb1 dX8_item_4 rfl (lv_at hl 1 rfl) ?_
  refine hh_kI h (va_runV (As := [.int x1]) (rest := []) X.1 (ad_X6_has (D := D) l J x1 σ _ hq) (cwV 1 X.1.2.2.2.2 gX8_item_X6_has rfl rfl rfl nd_X6_has ⟨Nat.le_of_ble_eq_true rfl, Nat.le_of_ble_eq_true rfl⟩) (hh_preV X h fc_2_0 kc_2 [.int x1]) rfl rfl hl.1 rfl (lv_room (Nat.le_of_ble_eq_true rfl)) dX8_item_5 ⟨Nat.le_of_ble_eq_true rfl, Nat.le_of_ble_eq_true rfl⟩) (fun r1 σ2 H locs hq h => ?_)
  refine lv_if_ne (tgt := 13) hx hb1 dX8_item_8 (by decide) (fun c3 => ?_) (fun c3 => ?_)
  · have hq := hq.1 c3
    refine lv_iload_n hx hb1 dX8_item_13 rfl (lv_at hl 2 rfl) ?_
    refine lv_if_lt (tgt := 23) hx hb1 dX8_item_14 (by decide) (fun c4 => ?_) (fun c4 => ?_)
    · have hq := hq.1 c4
      refine lv_bipush (v := (-2 : Int32)) hx hb1 dX8_item_23 (by decide) ?_
      exact hh_iret X h hr hlocks hq dX8_item_25
    · have hq := hq.2 c4
      refine lv_iload_n hx hb1 dX8_item_17 rfl (lv_at hl 2 rfl) ?_
      refine lv_bipush (v := (10 : Int32)) hx hb1 dX8_item_18 (by decide) ?_
      refine lv_icmp_lt (tgt := 26) hx hb1 dX8_item_20 (by decide) (fun c5 => ?_) (fun c5 => ?_)
      · have hq := hq.1 c5
        refine lv_aload_n hx hb1 dX8_item_26 rfl (lv_at hl 0 rfl) ?_
        refine hh_getr X h fc_0_2 in_X8_item_X8 kc_0 (by decide) (List.mem_of_getElem? (i := 2) rfl) rfl dX8_item_27 ?_
        refine hh_geti X h (q := 256) fc_4_0 rfl in_X8_item_X1 kc_4 (by decide) (List.mem_of_getElem? (i := 3) rfl) rfl dX8_item_30 ?_
        refine lv_bipush (v := (24 : Int32)) hx hb1 dX8_item_33 (by decide) ?_
        refine lv_icmp_lt (tgt := 41) hx hb1 dX8_item_35 (by decide) (fun c6 => ?_) (fun c6 => ?_)
        · have hq := hq.1 c6
          refine lv_aload_n hx hb1 dX8_item_41 rfl (lv_at hl 0 rfl) ?_
          refine hh_getr X h fc_0_2 in_X8_item_X8 kc_0 (by decide) (List.mem_of_getElem? (i := 2) rfl) rfl dX8_item_42 ?_
          refine lv_iload_n hx hb1 dX8_item_45 rfl (lv_at hl 1 rfl) ?_
          refine lv_iload_n hx hb1 dX8_item_46 rfl (lv_at hl 2 rfl) ?_
          refine hh_kI h (va_runV (As := [.int x1, .int x2]) (rest := []) X.1 (ad_X1_find (D := D) l J x1 x2 σ2 _ hq) (cwV 2 X.1.2.2.2.2 gX8_item_X1_find rfl rfl rfl nd_X1_find ⟨Nat.le_of_ble_eq_true rfl, Nat.le_of_ble_eq_true rfl⟩) (hh_preV X h fc_4_0 kc_4 [.int x1, .int x2]) rfl rfl hl.1 rfl (lv_room (Nat.le_of_ble_eq_true rfl)) dX8_item_47 ⟨Nat.le_of_ble_eq_true rfl, Nat.le_of_ble_eq_true rfl⟩) (fun r7 σ8 H locs hq h => ?_)
          refine lv_bipush (v := (-6 : Int32)) hx hb1 dX8_item_50 (by decide) ?_
          refine lv_icmp_eq (tgt := 58) hx hb1 dX8_item_52 (by decide) (fun c9 => ?_) (fun c9 => ?_)
          · have hq := hq.1 c9
            refine lv_aload_n hx hb1 dX8_item_58 rfl (lv_at hl 0 rfl) ?_
            refine hh_getr X h fc_0_2 in_X8_item_X8 kc_0 (by decide) (List.mem_of_getElem? (i := 2) rfl) rfl dX8_item_59 ?_
            refine lv_iload_n hx hb1 dX8_item_62 rfl (lv_at hl 1 rfl) ?_
            refine lv_iload_n hx hb1 dX8_item_63 rfl (lv_at hl 2 rfl) ?_
            refine lv_aload_n hx hb1 dX8_item_64 rfl (lv_at hl 0 rfl) ?_
            refine hh_getr X h fc_0_1 in_X8_item_X8 kc_0 (by decide) (List.mem_of_getElem? (i := 1) rfl) rfl dX8_item_65 ?_
            refine hh_getr X h fc_2_2 in_X8_item_X6 kc_2 (by decide) (List.mem_of_getElem? (i := 4) rfl) rfl dX8_item_68 ?_
            refine lv_iload_n hx hb1 dX8_item_71 rfl (lv_at hl 1 rfl) ?_
            obtain ⟨h10, hq⟩ := hq
            refine hh_ild X h ac_12 h10 dX8_item_72 ?_
            refine hh_kI h (va_runV (As := [.int x1, .int x2, .int (hh_rA σ8 12 x1)]) (rest := []) X.1 (ad_X1_add (D := D) l J x1 x2 (hh_rA σ8 12 x1) σ8 _ hq) (cwV 3 X.1.2.2.2.2 gX8_item_X1_add rfl rfl rfl nd_X1_add ⟨Nat.le_of_ble_eq_true rfl, Nat.le_of_ble_eq_true rfl⟩) (hh_preV X h fc_4_0 kc_4 [.int x1, .int x2, .int (hh_rA σ8 12 x1)]) rfl rfl hl.1 rfl (lv_room (Nat.le_of_ble_eq_true rfl)) dX8_item_73 ⟨Nat.le_of_ble_eq_true rfl, Nat.le_of_ble_eq_true rfl⟩) (fun r11 σ12 H locs hq h => ?_)
            refine lv_istore_n (lv' := [(3, .int r11), (0, .ref (ad 0)), (1, .int x1), (2, .int x2)]) hx hb1 dX8_item_76 rfl hl (by decide) rfl (fun ls hl => ?_)
            refine lv_aload_n hx hb1 dX8_item_77 rfl (lv_at hl 1 rfl) ?_
            refine hh_getr X h fc_0_5 in_X8_item_X8 kc_0 (by decide) (List.mem_of_getElem? (i := 5) rfl) rfl dX8_item_78 ?_
            refine lv_iload_n hx hb1 dX8_item_81 rfl (lv_at hl 0 rfl) ?_
            refine hh_kV h (va_runV (As := [.int r11]) (rest := []) X.1 (ad_X2_startAlike (D := D) l J (b := 0) (Or.inl rfl) r11 σ12 _ hq) (cwV 1 X.1.2.2.2.2 gX8_item_X2_startAlike rfl rfl rfl nd_X2_startAlike ⟨Nat.le_of_ble_eq_true rfl, Nat.le_of_ble_eq_true rfl⟩) (hh_preV X h fc_7_0 kc_7 [.int r11]) rfl rfl hl.1 rfl (lv_room (Nat.le_of_ble_eq_true rfl)) dX8_item_82 ⟨Nat.le_of_ble_eq_true rfl, Nat.le_of_ble_eq_true rfl⟩) (fun σ14 H locs hq h => ?_)
            refine lv_iload_n hx hb1 dX8_item_85 rfl (lv_at hl 0 rfl) ?_
            exact hh_iret X h hr hlocks hq dX8_item_86
          · have hq := hq.2 c9
            refine lv_bipush (v := (-5 : Int32)) hx hb1 dX8_item_55 (by decide) ?_
            exact hh_iret X h hr hlocks hq dX8_item_57
        · have hq := hq.2 c6
          refine lv_bipush (v := (-4 : Int32)) hx hb1 dX8_item_38 (by decide) ?_
          exact hh_iret X h hr hlocks hq dX8_item_40
      · have hq := hq.2 c5
        refine lv_bipush (v := (-2 : Int32)) hx hb1 dX8_item_23 (by decide) ?_
        exact hh_iret X h hr hlocks hq dX8_item_25
  · have hq := hq.2 c3
    refine lv_iconst (v := (-1 : Int32)) hx hb1 dX8_item_11 (by decide) ?_
    exact hh_iret X h hr hlocks hq dX8_item_12
theorem nd_X8_known : yX8_known.cls = RX8 ∧ yX8_known.cls ≠ "java/lang/invoke/MethodHandle" ∧ yX8_known.cls ≠ "java/lang/invoke/VarHandle" ∧ (parseMethodDescriptor yX8_known.desc).map (fun d => d.parameters.length) = some 2 := by decide +kernel
abbrev rm_X8_known : Room := { frames := 2, cells := 0, slots := 0, locals := 44 }
def wp_X8_known (x1 : Int32) (x2 : Int32) (σ : hh_S) (Q : Int32 → hh_S → Prop) : Prop := (wp_X1_hasLabel x1 x2 σ (fun (r1 : Int32) (σ2 : hh_S) => ((¬ r1 = 0 → (wp_X0_anySaid x1 σ2 (fun (r4 : Int32) (σ5 : hh_S) => ((¬ r4 = 0 → (Q (-3 : Int32) σ5)) ∧ (r4 = 0 → (wp_X1_isFree x1 σ5 (fun (r7 : Int32) (σ8 : hh_S) => ((¬ r7 = 0 → (vp_in x1 24 ∧ ∀ σ11 : hh_S, σ11 = hh_sA σ8 23 x1 x2 → (wp_X2_startGiven 0 x1 σ11 (fun (σ13 : hh_S) => (Q (1 : Int32) σ13))))) ∧ (r7 = 0 → (Q (-3 : Int32) σ8)))))))))) ∧ (r1 = 0 → (Q (-1 : Int32) σ2)))))
theorem in_X8_known_X8 : ∀ w ∈ u_ws RX8 TX8 13, w ∈ wsX8_known := fun w h => List.mem_cons_of_mem _ (List.mem_append_left _ (List.mem_append_left _ (List.mem_append_left _ (List.mem_append_right _ h))))
theorem in_X8_known_X1 : ∀ w ∈ u_ws RX1 TX1 7, w ∈ wsX8_known := fun w h => List.mem_cons_of_mem _ (List.mem_append_left _ (List.mem_append_left _ (List.mem_append_right _ h)))
theorem in_X8_known_X0 : ∀ w ∈ u_ws RX0 TX0 4, w ∈ wsX8_known := fun w h => List.mem_cons_of_mem _ (List.mem_append_left _ (List.mem_append_right _ h))
theorem in_X8_known_X2 : ∀ w ∈ u_ws RX2 TX2 9, w ∈ wsX8_known := fun w h => List.mem_cons_of_mem _ (List.mem_append_right _ h)
set_option maxHeartbeats 4000000 in
set_option maxRecDepth 100000 in
theorem ad_X8_known {D : va_G} (l : Launch) {cy : Nat → ClassId} {ad : Nat → Nat} (J : hh_J hc_Y ad) (x1 : Int32) (x2 : Int32) (σ : hh_S) (Q : Int32 → hh_S → Prop) (hq : wp_X8_known x1 x2 σ Q) : Met l yX8_known wsX8_known rm_X8_known (va_Pc [.ref (ad 0), .int x1, .int x2] (hh_B D hh_cl hc_Y cy ad σ)) (va_Qi Q (hh_B D hh_cl hc_Y cy ad) (hh_A hc_Y ad)) 0 0 (hh_A hc_Y ad) := by
  refine Met.ofW (cc := cX8_known) (maxL := 3) (ret := (some .int)) (by decide) rfl ?_
  intro p e s m args below meth c s₁ B hml hv
  obtain ⟨hargs, hP0, hK0⟩ := hv
  have hr := B.returns
  have hlocks := B.notSynchronized
  have X : hh_X p m c cX8_known 3 s args wsX8_known RX8 D hh_cl hc_Y cy ad := ⟨⟨B.exec, B.bytes, hml, findClass_of_methodNamed B.named, atoms_spec (ws := wsX8_known) B.pre⟩, hK0, J⟩
  have hx := X.1.1
  have hb1 := X.1.2.1
  have h : hh_H D hh_cl hc_Y cy ad s.heap σ s.heap [] := ⟨hP0, va_S.rf⟩
  subst hargs
  refine hh_entry (vs := [.ref (ad 0), .int x1, .int x2]) (Nat.le_of_ble_eq_true rfl) (fun ls hl => ?_)
  have hl : lv_has ls 3 [(0, .ref (ad 0)), (1, .int x1), (2, .int x2)] := hl
  have hq : wp_X8_known x1 x2 σ Q := hq
  unfold wp_X8_known at hq
  refine lv_aload_n hx hb1 dX8_known_0 rfl (lv_at hl 0 rfl) ?_
  refine hh_getr X h fc_0_2 in_X8_known_X8 kc_0 (by decide) (List.mem_of_getElem? (i := 1) rfl) rfl dX8_known_1 ?_
  refine lv_iload_n hx hb1 dX8_known_4 rfl (lv_at hl 1 rfl) ?_
  refine lv_iload_n hx hb1 dX8_known_5 rfl (lv_at hl 2 rfl) ?_
  refine hh_kI h (va_runV (As := [.int x1, .int x2]) (rest := []) X.1 (ad_X1_hasLabel (D := D) l J x1 x2 σ _ hq) (cwV 2 X.1.2.2.2.2 gX8_known_X1_hasLabel rfl rfl rfl nd_X1_hasLabel ⟨Nat.le_of_ble_eq_true rfl, Nat.le_of_ble_eq_true rfl⟩) (hh_preV X h fc_4_0 kc_4 [.int x1, .int x2]) rfl rfl hl.1 rfl (lv_room (Nat.le_of_ble_eq_true rfl)) dX8_known_6 ⟨Nat.le_of_ble_eq_true rfl, Nat.le_of_ble_eq_true rfl⟩) (fun r1 σ2 H locs hq h => ?_)
  refine lv_if_ne (tgt := 14) hx hb1 dX8_known_9 (by decide) (fun c3 => ?_) (fun c3 => ?_)
  · have hq := hq.1 c3
    refine lv_aload_n hx hb1 dX8_known_14 rfl (lv_at hl 0 rfl) ?_
    refine hh_getr X h fc_0_3 in_X8_known_X8 kc_0 (by decide) (List.mem_of_getElem? (i := 2) rfl) rfl dX8_known_15 ?_
    refine lv_iload_n hx hb1 dX8_known_18 rfl (lv_at hl 1 rfl) ?_
    refine hh_kI h (va_runV (As := [.int x1]) (rest := []) X.1 (ad_X0_anySaid (D := D) l J x1 σ2 _ hq) (cwV 1 X.1.2.2.2.2 gX8_known_X0_anySaid rfl rfl rfl nd_X0_anySaid ⟨Nat.le_of_ble_eq_true rfl, Nat.le_of_ble_eq_true rfl⟩) (hh_preV X h fc_5_0 kc_5 [.int x1]) rfl rfl hl.1 rfl (lv_room (Nat.le_of_ble_eq_true rfl)) dX8_known_19 ⟨Nat.le_of_ble_eq_true rfl, Nat.le_of_ble_eq_true rfl⟩) (fun r4 σ5 H locs hq h => ?_)
    refine lv_if_ne (tgt := 36) hx hb1 dX8_known_22 (by decide) (fun c6 => ?_) (fun c6 => ?_)
    · have hq := hq.1 c6
      refine lv_bipush (v := (-3 : Int32)) hx hb1 dX8_known_36 (by decide) ?_
      exact hh_iret X h hr hlocks hq dX8_known_38
    · have hq := hq.2 c6
      refine lv_aload_n hx hb1 dX8_known_25 rfl (lv_at hl 0 rfl) ?_
      refine hh_getr X h fc_0_2 in_X8_known_X8 kc_0 (by decide) (List.mem_of_getElem? (i := 1) rfl) rfl dX8_known_26 ?_
      refine lv_iload_n hx hb1 dX8_known_29 rfl (lv_at hl 1 rfl) ?_
      refine hh_kI h (va_runV (As := [.int x1]) (rest := []) X.1 (ad_X1_isFree (D := D) l J x1 σ5 _ hq) (cwV 1 X.1.2.2.2.2 gX8_known_X1_isFree rfl rfl rfl nd_X1_isFree ⟨Nat.le_of_ble_eq_true rfl, Nat.le_of_ble_eq_true rfl⟩) (hh_preV X h fc_4_0 kc_4 [.int x1]) rfl rfl hl.1 rfl (lv_room (Nat.le_of_ble_eq_true rfl)) dX8_known_30 ⟨Nat.le_of_ble_eq_true rfl, Nat.le_of_ble_eq_true rfl⟩) (fun r7 σ8 H locs hq h => ?_)
      refine lv_if_ne (tgt := 39) hx hb1 dX8_known_33 (by decide) (fun c9 => ?_) (fun c9 => ?_)
      · have hq := hq.1 c9
        refine lv_aload_n hx hb1 dX8_known_39 rfl (lv_at hl 0 rfl) ?_
        refine hh_getr X h fc_0_2 in_X8_known_X8 kc_0 (by decide) (List.mem_of_getElem? (i := 1) rfl) rfl dX8_known_40 ?_
        refine hh_getr X h fc_4_4 in_X8_known_X1 kc_4 (by decide) (List.mem_of_getElem? (i := 3) rfl) rfl dX8_known_43 ?_
        refine lv_iload_n hx hb1 dX8_known_46 rfl (lv_at hl 1 rfl) ?_
        refine lv_iload_n hx hb1 dX8_known_47 rfl (lv_at hl 2 rfl) ?_
        obtain ⟨h10, hq⟩ := hq
        refine hh_ist X h ac_23 h10 dX8_known_48 (fun σ11 H locs eσ11 h => ?_)
        have hq := hq σ11 eσ11
        refine lv_aload_n hx hb1 dX8_known_49 rfl (lv_at hl 0 rfl) ?_
        refine hh_getr X h fc_0_5 in_X8_known_X8 kc_0 (by decide) (List.mem_of_getElem? (i := 4) rfl) rfl dX8_known_50 ?_
        refine lv_iload_n hx hb1 dX8_known_53 rfl (lv_at hl 1 rfl) ?_
        refine hh_kV h (va_runV (As := [.int x1]) (rest := []) X.1 (ad_X2_startGiven (D := D) l J (b := 0) (Or.inl rfl) x1 σ11 _ hq) (cwV 1 X.1.2.2.2.2 gX8_known_X2_startGiven rfl rfl rfl nd_X2_startGiven ⟨Nat.le_of_ble_eq_true rfl, Nat.le_of_ble_eq_true rfl⟩) (hh_preV X h fc_7_0 kc_7 [.int x1]) rfl rfl hl.1 rfl (lv_room (Nat.le_of_ble_eq_true rfl)) dX8_known_54 ⟨Nat.le_of_ble_eq_true rfl, Nat.le_of_ble_eq_true rfl⟩) (fun σ13 H locs hq h => ?_)
        refine lv_iconst (v := (1 : Int32)) hx hb1 dX8_known_57 (by decide) ?_
        exact hh_iret X h hr hlocks hq dX8_known_58
      · have hq := hq.2 c9
        refine lv_bipush (v := (-3 : Int32)) hx hb1 dX8_known_36 (by decide) ?_
        exact hh_iret X h hr hlocks hq dX8_known_38
  · have hq := hq.2 c3
    refine lv_iconst (v := (-1 : Int32)) hx hb1 dX8_known_12 (by decide) ?_
    exact hh_iret X h hr hlocks hq dX8_known_13
theorem nd_X8_settle : yX8_settle.cls = RX8 ∧ yX8_settle.cls ≠ "java/lang/invoke/MethodHandle" ∧ yX8_settle.cls ≠ "java/lang/invoke/VarHandle" ∧ (parseMethodDescriptor yX8_settle.desc).map (fun d => d.parameters.length) = some 2 := by decide +kernel
abbrev rm_X8_settle : Room := { frames := 2, cells := 0, slots := 0, locals := 44 }
def wp_X8_settle (x1 : Int32) (x2 : Int32) (σ : hh_S) (Q : Int32 → hh_S → Prop) : Prop := (wp_X1_hasLabel x1 x2 σ (fun (r1 : Int32) (σ2 : hh_S) => ((¬ r1 = 0 → (vp_in x1 24 ∧ (((hh_rA σ2 23 x1) = (-6 : Int32) → (vp_in x1 24 ∧ (∀ v7 : Int32, v7 = (hh_rA σ2 24 x1) → (vp_in x1 24 ∧ ∀ σ9 : hh_S, σ9 = hh_sA σ2 24 x1 x2 → (wp_X2_startGiven 0 x1 σ9 (fun (σ11 : hh_S) => (Q v7 σ11))))))) ∧ (¬ (hh_rA σ2 23 x1) = (-6 : Int32) → (Q (-3 : Int32) σ2))))) ∧ (r1 = 0 → (Q (-1 : Int32) σ2)))))
theorem in_X8_settle_X8 : ∀ w ∈ u_ws RX8 TX8 13, w ∈ wsX8_settle := fun w h => List.mem_cons_of_mem _ (List.mem_append_left _ (List.mem_append_left _ (List.mem_append_right _ h)))
theorem in_X8_settle_X1 : ∀ w ∈ u_ws RX1 TX1 7, w ∈ wsX8_settle := fun w h => List.mem_cons_of_mem _ (List.mem_append_left _ (List.mem_append_right _ h))
theorem in_X8_settle_X2 : ∀ w ∈ u_ws RX2 TX2 9, w ∈ wsX8_settle := fun w h => List.mem_cons_of_mem _ (List.mem_append_right _ h)
set_option maxHeartbeats 4000000 in
set_option maxRecDepth 100000 in
theorem ad_X8_settle {D : va_G} (l : Launch) {cy : Nat → ClassId} {ad : Nat → Nat} (J : hh_J hc_Y ad) (x1 : Int32) (x2 : Int32) (σ : hh_S) (Q : Int32 → hh_S → Prop) (hq : wp_X8_settle x1 x2 σ Q) : Met l yX8_settle wsX8_settle rm_X8_settle (va_Pc [.ref (ad 0), .int x1, .int x2] (hh_B D hh_cl hc_Y cy ad σ)) (va_Qi Q (hh_B D hh_cl hc_Y cy ad) (hh_A hc_Y ad)) 0 0 (hh_A hc_Y ad) := by
  refine Met.ofW (cc := cX8_settle) (maxL := 4) (ret := (some .int)) (by decide) rfl ?_
  intro p e s m args below meth c s₁ B hml hv
  obtain ⟨hargs, hP0, hK0⟩ := hv
  have hr := B.returns
  have hlocks := B.notSynchronized
  have X : hh_X p m c cX8_settle 4 s args wsX8_settle RX8 D hh_cl hc_Y cy ad := ⟨⟨B.exec, B.bytes, hml, findClass_of_methodNamed B.named, atoms_spec (ws := wsX8_settle) B.pre⟩, hK0, J⟩
  have hx := X.1.1
  have hb1 := X.1.2.1
  have h : hh_H D hh_cl hc_Y cy ad s.heap σ s.heap [] := ⟨hP0, va_S.rf⟩
  subst hargs
  refine hh_entry (vs := [.ref (ad 0), .int x1, .int x2]) (Nat.le_of_ble_eq_true rfl) (fun ls hl => ?_)
  have hl : lv_has ls 4 [(0, .ref (ad 0)), (1, .int x1), (2, .int x2)] := hl
  have hq : wp_X8_settle x1 x2 σ Q := hq
  unfold wp_X8_settle at hq
  refine lv_aload_n hx hb1 dX8_settle_0 rfl (lv_at hl 0 rfl) ?_
  refine hh_getr X h fc_0_2 in_X8_settle_X8 kc_0 (by decide) (List.mem_of_getElem? (i := 1) rfl) rfl dX8_settle_1 ?_
  refine lv_iload_n hx hb1 dX8_settle_4 rfl (lv_at hl 1 rfl) ?_
  refine lv_iload_n hx hb1 dX8_settle_5 rfl (lv_at hl 2 rfl) ?_
  refine hh_kI h (va_runV (As := [.int x1, .int x2]) (rest := []) X.1 (ad_X1_hasLabel (D := D) l J x1 x2 σ _ hq) (cwV 2 X.1.2.2.2.2 gX8_settle_X1_hasLabel rfl rfl rfl nd_X1_hasLabel ⟨Nat.le_of_ble_eq_true rfl, Nat.le_of_ble_eq_true rfl⟩) (hh_preV X h fc_4_0 kc_4 [.int x1, .int x2]) rfl rfl hl.1 rfl (lv_room (Nat.le_of_ble_eq_true rfl)) dX8_settle_6 ⟨Nat.le_of_ble_eq_true rfl, Nat.le_of_ble_eq_true rfl⟩) (fun r1 σ2 H locs hq h => ?_)
  refine lv_if_ne (tgt := 14) hx hb1 dX8_settle_9 (by decide) (fun c3 => ?_) (fun c3 => ?_)
  · have hq := hq.1 c3
    refine lv_aload_n hx hb1 dX8_settle_14 rfl (lv_at hl 0 rfl) ?_
    refine hh_getr X h fc_0_2 in_X8_settle_X8 kc_0 (by decide) (List.mem_of_getElem? (i := 1) rfl) rfl dX8_settle_15 ?_
    refine hh_getr X h fc_4_4 in_X8_settle_X1 kc_4 (by decide) (List.mem_of_getElem? (i := 2) rfl) rfl dX8_settle_18 ?_
    refine lv_iload_n hx hb1 dX8_settle_21 rfl (lv_at hl 1 rfl) ?_
    obtain ⟨h4, hq⟩ := hq
    refine hh_ild X h ac_23 h4 dX8_settle_22 ?_
    refine lv_bipush (v := (-6 : Int32)) hx hb1 dX8_settle_23 (by decide) ?_
    refine lv_icmp_eq (tgt := 31) hx hb1 dX8_settle_25 (by decide) (fun c5 => ?_) (fun c5 => ?_)
    · have hq := hq.1 c5
      refine lv_aload_n hx hb1 dX8_settle_31 rfl (lv_at hl 0 rfl) ?_
      refine hh_getr X h fc_0_2 in_X8_settle_X8 kc_0 (by decide) (List.mem_of_getElem? (i := 1) rfl) rfl dX8_settle_32 ?_
      refine hh_getr X h fc_4_5 in_X8_settle_X1 kc_4 (by decide) (List.mem_of_getElem? (i := 3) rfl) rfl dX8_settle_35 ?_
      refine lv_iload_n hx hb1 dX8_settle_38 rfl (lv_at hl 1 rfl) ?_
      obtain ⟨h6, hq⟩ := hq
      refine hh_ild X h ac_24 h6 dX8_settle_39 ?_
      refine lv_topi (fun v7 ev7 => ?_)
      have hq := hq v7 ev7
      refine lv_istore_n (lv' := [(3, .int v7), (0, .ref (ad 0)), (1, .int x1), (2, .int x2)]) hx hb1 dX8_settle_40 rfl hl (by decide) rfl (fun ls hl => ?_)
      refine lv_aload_n hx hb1 dX8_settle_41 rfl (lv_at hl 1 rfl) ?_
      refine hh_getr X h fc_0_2 in_X8_settle_X8 kc_0 (by decide) (List.mem_of_getElem? (i := 1) rfl) rfl dX8_settle_42 ?_
      refine hh_getr X h fc_4_5 in_X8_settle_X1 kc_4 (by decide) (List.mem_of_getElem? (i := 3) rfl) rfl dX8_settle_45 ?_
      refine lv_iload_n hx hb1 dX8_settle_48 rfl (lv_at hl 2 rfl) ?_
      refine lv_iload_n hx hb1 dX8_settle_49 rfl (lv_at hl 3 rfl) ?_
      obtain ⟨h8, hq⟩ := hq
      refine hh_ist X h ac_24 h8 dX8_settle_50 (fun σ9 H locs eσ9 h => ?_)
      have hq := hq σ9 eσ9
      refine lv_aload_n hx hb1 dX8_settle_51 rfl (lv_at hl 1 rfl) ?_
      refine hh_getr X h fc_0_5 in_X8_settle_X8 kc_0 (by decide) (List.mem_of_getElem? (i := 4) rfl) rfl dX8_settle_52 ?_
      refine lv_iload_n hx hb1 dX8_settle_55 rfl (lv_at hl 2 rfl) ?_
      refine hh_kV h (va_runV (As := [.int x1]) (rest := []) X.1 (ad_X2_startGiven (D := D) l J (b := 0) (Or.inl rfl) x1 σ9 _ hq) (cwV 1 X.1.2.2.2.2 gX8_settle_X2_startGiven rfl rfl rfl nd_X2_startGiven ⟨Nat.le_of_ble_eq_true rfl, Nat.le_of_ble_eq_true rfl⟩) (hh_preV X h fc_7_0 kc_7 [.int x1]) rfl rfl hl.1 rfl (lv_room (Nat.le_of_ble_eq_true rfl)) dX8_settle_56 ⟨Nat.le_of_ble_eq_true rfl, Nat.le_of_ble_eq_true rfl⟩) (fun σ11 H locs hq h => ?_)
      refine lv_iload_n hx hb1 dX8_settle_59 rfl (lv_at hl 0 rfl) ?_
      exact hh_iret X h hr hlocks hq dX8_settle_60
    · have hq := hq.2 c5
      refine lv_bipush (v := (-3 : Int32)) hx hb1 dX8_settle_28 (by decide) ?_
      exact hh_iret X h hr hlocks hq dX8_settle_30
  · have hq := hq.2 c3
    refine lv_iconst (v := (-1 : Int32)) hx hb1 dX8_settle_12 (by decide) ?_
    exact hh_iret X h hr hlocks hq dX8_settle_13
theorem nd_X8_show : yX8_show.cls = RX8 ∧ yX8_show.cls ≠ "java/lang/invoke/MethodHandle" ∧ yX8_show.cls ≠ "java/lang/invoke/VarHandle" ∧ (parseMethodDescriptor yX8_show.desc).map (fun d => d.parameters.length) = some 2 := by decide +kernel
abbrev rm_X8_show : Room := { frames := 1, cells := 0, slots := 0, locals := 21 }
def wp_X8_show (x1 : Int32) (x2 : Int32) (σ : hh_S) (Q : Int32 → hh_S → Prop) : Prop := (wp_X1_has x1 σ (fun (r1 : Int32) (σ2 : hh_S) => ((¬ r1 = 0 → ((x2 < 0 → (Q (-2 : Int32) σ2)) ∧ (¬ x2 < 0 → ((x2 ≤ (15 : Int32) → (vp_in x1 24 ∧ (∀ v7 : Int32, v7 = (hh_rA σ2 25 x1) → (vp_in x1 24 ∧ ∀ σ9 : hh_S, σ9 = hh_sA σ2 25 x1 x2 → (Q v7 σ9))))) ∧ (¬ x2 ≤ (15 : Int32) → (Q (-2 : Int32) σ2)))))) ∧ (r1 = 0 → (Q (-1 : Int32) σ2)))))
theorem in_X8_show_X8 : ∀ w ∈ u_ws RX8 TX8 13, w ∈ wsX8_show := fun w h => List.mem_cons_of_mem _ (List.mem_append_left _ (List.mem_append_right _ h))
theorem in_X8_show_X1 : ∀ w ∈ u_ws RX1 TX1 7, w ∈ wsX8_show := fun w h => List.mem_cons_of_mem _ (List.mem_append_right _ h)
set_option maxHeartbeats 4000000 in
set_option maxRecDepth 100000 in
theorem ad_X8_show {D : va_G} (l : Launch) {cy : Nat → ClassId} {ad : Nat → Nat} (J : hh_J hc_Y ad) (x1 : Int32) (x2 : Int32) (σ : hh_S) (Q : Int32 → hh_S → Prop) (hq : wp_X8_show x1 x2 σ Q) : Met l yX8_show wsX8_show rm_X8_show (va_Pc [.ref (ad 0), .int x1, .int x2] (hh_B D hh_cl hc_Y cy ad σ)) (va_Qi Q (hh_B D hh_cl hc_Y cy ad) (hh_A hc_Y ad)) 0 0 (hh_A hc_Y ad) := by
  refine Met.ofW (cc := cX8_show) (maxL := 4) (ret := (some .int)) (by decide) rfl ?_
  intro p e s m args below meth c s₁ B hml hv
  obtain ⟨hargs, hP0, hK0⟩ := hv
  have hr := B.returns
  have hlocks := B.notSynchronized
  have X : hh_X p m c cX8_show 4 s args wsX8_show RX8 D hh_cl hc_Y cy ad := ⟨⟨B.exec, B.bytes, hml, findClass_of_methodNamed B.named, atoms_spec (ws := wsX8_show) B.pre⟩, hK0, J⟩
  have hx := X.1.1
  have hb1 := X.1.2.1
  have h : hh_H D hh_cl hc_Y cy ad s.heap σ s.heap [] := ⟨hP0, va_S.rf⟩
  subst hargs
  refine hh_entry (vs := [.ref (ad 0), .int x1, .int x2]) (Nat.le_of_ble_eq_true rfl) (fun ls hl => ?_)
  have hl : lv_has ls 4 [(0, .ref (ad 0)), (1, .int x1), (2, .int x2)] := hl
  have hq : wp_X8_show x1 x2 σ Q := hq
  unfold wp_X8_show at hq
  refine lv_aload_n hx hb1 dX8_show_0 rfl (lv_at hl 0 rfl) ?_
  refine hh_getr X h fc_0_2 in_X8_show_X8 kc_0 (by decide) (List.mem_of_getElem? (i := 1) rfl) rfl dX8_show_1 ?_
  refine lv_iload_n hx hb1 dX8_show_4 rfl (lv_at hl 1 rfl) ?_
  refine hh_kI h (va_runV (As := [.int x1]) (rest := []) X.1 (ad_X1_has (D := D) l J x1 σ _ hq) (cwV 1 X.1.2.2.2.2 gX8_show_X1_has rfl rfl rfl nd_X1_has ⟨Nat.le_of_ble_eq_true rfl, Nat.le_of_ble_eq_true rfl⟩) (hh_preV X h fc_4_0 kc_4 [.int x1]) rfl rfl hl.1 rfl (lv_room (Nat.le_of_ble_eq_true rfl)) dX8_show_5 ⟨Nat.le_of_ble_eq_true rfl, Nat.le_of_ble_eq_true rfl⟩) (fun r1 σ2 H locs hq h => ?_)
  refine lv_if_ne (tgt := 13) hx hb1 dX8_show_8 (by decide) (fun c3 => ?_) (fun c3 => ?_)
  · have hq := hq.1 c3
    refine lv_iload_n hx hb1 dX8_show_13 rfl (lv_at hl 2 rfl) ?_
    refine lv_if_lt (tgt := 23) hx hb1 dX8_show_14 (by decide) (fun c4 => ?_) (fun c4 => ?_)
    · have hq := hq.1 c4
      refine lv_bipush (v := (-2 : Int32)) hx hb1 dX8_show_23 (by decide) ?_
      exact hh_iret X h hr hlocks hq dX8_show_25
    · have hq := hq.2 c4
      refine lv_iload_n hx hb1 dX8_show_17 rfl (lv_at hl 2 rfl) ?_
      refine lv_bipush (v := (15 : Int32)) hx hb1 dX8_show_18 (by decide) ?_
      refine lv_icmp_le (tgt := 26) hx hb1 dX8_show_20 (by decide) (fun c5 => ?_) (fun c5 => ?_)
      · have hq := hq.1 c5
        refine lv_aload_n hx hb1 dX8_show_26 rfl (lv_at hl 0 rfl) ?_
        refine hh_getr X h fc_0_2 in_X8_show_X8 kc_0 (by decide) (List.mem_of_getElem? (i := 1) rfl) rfl dX8_show_27 ?_
        refine hh_getr X h fc_4_6 in_X8_show_X1 kc_4 (by decide) (List.mem_of_getElem? (i := 2) rfl) rfl dX8_show_30 ?_
        refine lv_iload_n hx hb1 dX8_show_33 rfl (lv_at hl 1 rfl) ?_
        obtain ⟨h6, hq⟩ := hq
        refine hh_ild X h ac_25 h6 dX8_show_34 ?_
        refine lv_topi (fun v7 ev7 => ?_)
        have hq := hq v7 ev7
        refine lv_istore_n (lv' := [(3, .int v7), (0, .ref (ad 0)), (1, .int x1), (2, .int x2)]) hx hb1 dX8_show_35 rfl hl (by decide) rfl (fun ls hl => ?_)
        refine lv_aload_n hx hb1 dX8_show_36 rfl (lv_at hl 1 rfl) ?_
        refine hh_getr X h fc_0_2 in_X8_show_X8 kc_0 (by decide) (List.mem_of_getElem? (i := 1) rfl) rfl dX8_show_37 ?_
        refine hh_getr X h fc_4_6 in_X8_show_X1 kc_4 (by decide) (List.mem_of_getElem? (i := 2) rfl) rfl dX8_show_40 ?_
        refine lv_iload_n hx hb1 dX8_show_43 rfl (lv_at hl 2 rfl) ?_
        refine lv_iload_n hx hb1 dX8_show_44 rfl (lv_at hl 3 rfl) ?_
        obtain ⟨h8, hq⟩ := hq
        refine hh_ist X h ac_25 h8 dX8_show_45 (fun σ9 H locs eσ9 h => ?_)
        have hq := hq σ9 eσ9
        refine lv_iload_n hx hb1 dX8_show_46 rfl (lv_at hl 0 rfl) ?_
        exact hh_iret X h hr hlocks hq dX8_show_47
      · have hq := hq.2 c5
        refine lv_bipush (v := (-2 : Int32)) hx hb1 dX8_show_23 (by decide) ?_
        exact hh_iret X h hr hlocks hq dX8_show_25
  · have hq := hq.2 c3
    refine lv_iconst (v := (-1 : Int32)) hx hb1 dX8_show_11 (by decide) ?_
    exact hh_iret X h hr hlocks hq dX8_show_12
theorem nd_X8_sureOf : yX8_sureOf.cls = RX8 ∧ yX8_sureOf.cls ≠ "java/lang/invoke/MethodHandle" ∧ yX8_sureOf.cls ≠ "java/lang/invoke/VarHandle" ∧ (parseMethodDescriptor yX8_sureOf.desc).map (fun d => d.parameters.length) = some 1 := by decide +kernel
abbrev rm_X8_sureOf : Room := { frames := 1, cells := 0, slots := 0, locals := 23 }
def wp_X8_sureOf (x1 : Int32) (σ : hh_S) (Q : Int32 → hh_S → Prop) : Prop := (vp_in x1 24 ∧ (wp_X2_greatest 0 x1 σ (fun (r2 : Int32) (σ3 : hh_S) => (vp_in r2 4 ∧ (Q ((hh_rA σ3 (55 + (x1).toNatClampNeg) r2) / (1000 : Int32)) σ3)))))
theorem in_X8_sureOf_X8 : ∀ w ∈ u_ws RX8 TX8 13, w ∈ wsX8_sureOf := fun w h => List.mem_cons_of_mem _ (List.mem_append_left _ (List.mem_append_left _ (List.mem_append_right _ h)))
theorem in_X8_sureOf_X2 : ∀ w ∈ u_ws RX2 TX2 9, w ∈ wsX8_sureOf := fun w h => List.mem_cons_of_mem _ (List.mem_append_left _ (List.mem_append_right _ h))
theorem in_X8_sureOf_X1 : ∀ w ∈ u_ws RX1 TX1 7, w ∈ wsX8_sureOf := fun w h => List.mem_cons_of_mem _ (List.mem_append_right _ h)
set_option maxHeartbeats 4000000 in
set_option maxRecDepth 100000 in
theorem ad_X8_sureOf {D : va_G} (l : Launch) {cy : Nat → ClassId} {ad : Nat → Nat} (J : hh_J hc_Y ad) (x1 : Int32) (σ : hh_S) (Q : Int32 → hh_S → Prop) (hq : wp_X8_sureOf x1 σ Q) : Met l yX8_sureOf wsX8_sureOf rm_X8_sureOf (va_Pc [.ref (ad 0), .int x1] (hh_B D hh_cl hc_Y cy ad σ)) (va_Qi Q (hh_B D hh_cl hc_Y cy ad) (hh_A hc_Y ad)) 0 0 (hh_A hc_Y ad) := by
  refine Met.ofW (cc := cX8_sureOf) (maxL := 2) (ret := (some .int)) (by decide) rfl ?_
  intro p e s m args below meth c s₁ B hml hv
  obtain ⟨hargs, hP0, hK0⟩ := hv
  have hr := B.returns
  have hlocks := B.notSynchronized
  have X : hh_X p m c cX8_sureOf 2 s args wsX8_sureOf RX8 D hh_cl hc_Y cy ad := ⟨⟨B.exec, B.bytes, hml, findClass_of_methodNamed B.named, atoms_spec (ws := wsX8_sureOf) B.pre⟩, hK0, J⟩
  have hx := X.1.1
  have hb1 := X.1.2.1
  have h : hh_H D hh_cl hc_Y cy ad s.heap σ s.heap [] := ⟨hP0, va_S.rf⟩
  subst hargs
  refine hh_entry (vs := [.ref (ad 0), .int x1]) (Nat.le_of_ble_eq_true rfl) (fun ls hl => ?_)
  have hl : lv_has ls 2 [(0, .ref (ad 0)), (1, .int x1)] := hl
  have hq : wp_X8_sureOf x1 σ Q := hq
  unfold wp_X8_sureOf at hq
  refine lv_aload_n hx hb1 dX8_sureOf_0 rfl (lv_at hl 0 rfl) ?_
  refine hh_getr X h fc_0_5 in_X8_sureOf_X8 kc_0 (by decide) (List.mem_of_getElem? (i := 1) rfl) rfl dX8_sureOf_1 ?_
  refine hh_getr X h fc_7_0 in_X8_sureOf_X2 kc_7 (by decide) (List.mem_of_getElem? (i := 2) rfl) rfl dX8_sureOf_4 ?_
  refine lv_iload_n hx hb1 dX8_sureOf_7 rfl (lv_at hl 1 rfl) ?_
  obtain ⟨h1, hq⟩ := hq
  refine hh_ald X h ac_30 h1 dX8_sureOf_8 ?_
  refine lv_aload_n hx hb1 dX8_sureOf_9 rfl (lv_at hl 0 rfl) ?_
  refine hh_getr X h fc_0_5 in_X8_sureOf_X8 kc_0 (by decide) (List.mem_of_getElem? (i := 1) rfl) rfl dX8_sureOf_10 ?_
  refine lv_iload_n hx hb1 dX8_sureOf_13 rfl (lv_at hl 1 rfl) ?_
  refine hh_kI h (va_runV (As := [.int x1]) (rest := [.ref (ad (55 + (x1).toNatClampNeg))]) X.1 (ad_X2_greatest (D := D) l J (b := 0) (Or.inl rfl) x1 σ _ hq) (cwV 1 X.1.2.2.2.2 gX8_sureOf_X2_greatest rfl rfl rfl nd_X2_greatest ⟨Nat.le_of_ble_eq_true rfl, Nat.le_of_ble_eq_true rfl⟩) (hh_preV X h fc_7_0 kc_7 [.int x1]) rfl rfl hl.1 rfl (lv_room (Nat.le_of_ble_eq_true rfl)) dX8_sureOf_14 ⟨Nat.le_of_ble_eq_true rfl, Nat.le_of_ble_eq_true rfl⟩) (fun r2 σ3 H locs hq h => ?_)
  obtain ⟨h4, hq⟩ := hq
  refine hh_ild X h (ar_sh (b := 0) (Or.inl rfl) h1) h4 dX8_sureOf_17 ?_
  refine lv_sipush (v := (1000 : Int32)) hx hb1 dX8_sureOf_18 (by decide) ?_
  refine lv_idiv hx hb1 dX8_sureOf_21 (by decide) ?_
  exact hh_iret X h hr hlocks hq dX8_sureOf_22
theorem nd_X8_isOpen : yX8_isOpen.cls = RX8 ∧ yX8_isOpen.cls ≠ "java/lang/invoke/MethodHandle" ∧ yX8_isOpen.cls ≠ "java/lang/invoke/VarHandle" ∧ (parseMethodDescriptor yX8_isOpen.desc).map (fun d => d.parameters.length) = some 1 := by decide +kernel
abbrev rm_X8_isOpen : Room := { frames := 2, cells := 0, slots := 0, locals := 44 }
def wq_X8_isOpen_12 (x1 : Int32) (x2 : Int32) (Q : Int32 → hh_S → Prop) (K12 : Int32 → hh_S → Prop) (x3 : Int32) (σ : hh_S) : Prop := (((hh_I σ 128) ≤ x3 → (Q (1 : Int32) σ)) ∧ (¬ (hh_I σ 128) ≤ x3 → (vp_in x2 8 ∧ ((¬ (((hh_rA σ 13 x2) >>> (x3 &&& 31)) &&& (1 : Int32)) = (1 : Int32) → (K12 (x3 + (1 : Int32)) σ)) ∧ ((((hh_rA σ 13 x2) >>> (x3 &&& 31)) &&& (1 : Int32)) = (1 : Int32) → (vp_in x1 24 ∧ (wp_X1_find x3 (hh_rA σ 21 x1) σ (fun (r5 : Int32) (σ6 : hh_S) => ((r5 = (-6 : Int32) → (Q (0 : Int32) σ6)) ∧ (¬ r5 = (-6 : Int32) → (wp_X8_sureOf r5 σ6 (fun (r8 : Int32) (σ9 : hh_S) => (vp_in x2 8 ∧ (((hh_rA σ9 14 x2) ≤ r8 → (K12 (x3 + (1 : Int32)) σ9)) ∧ (¬ (hh_rA σ9 14 x2) ≤ r8 → (Q (0 : Int32) σ9))))))))))))))))
def wp_X8_isOpen (x1 : Int32) (σ : hh_S) (Q : Int32 → hh_S → Prop) : Prop := (vp_in x1 24 ∧ (∀ v13 : Int32, v13 = (hh_rA σ 20 x1) → (∃ n : Nat, hh_lp1 (wq_X8_isOpen_12 x1 v13 Q) n (0 : Int32) σ)))
theorem in_X8_isOpen_X8 : ∀ w ∈ u_ws RX8 TX8 13, w ∈ wsX8_isOpen := fun w h => List.mem_cons_of_mem _ (List.mem_append_left _ (List.mem_append_left _ (List.mem_append_left _ (List.mem_append_right _ h))))
theorem in_X8_isOpen_X1 : ∀ w ∈ u_ws RX1 TX1 7, w ∈ wsX8_isOpen := fun w h => List.mem_cons_of_mem _ (List.mem_append_left _ (List.mem_append_left _ (List.mem_append_right _ h)))
theorem in_X8_isOpen_X6 : ∀ w ∈ u_ws RX6 TX6 5, w ∈ wsX8_isOpen := fun w h => List.mem_cons_of_mem _ (List.mem_append_left _ (List.mem_append_right _ h))
theorem in_X8_isOpen_X2 : ∀ w ∈ u_ws RX2 TX2 9, w ∈ wsX8_isOpen := fun w h => List.mem_cons_of_mem _ (List.mem_append_right _ h)
set_option maxHeartbeats 4000000 in
set_option maxRecDepth 100000 in
theorem ad_X8_isOpen {D : va_G} (l : Launch) {cy : Nat → ClassId} {ad : Nat → Nat} (J : hh_J hc_Y ad) (x1 : Int32) (σ : hh_S) (Q : Int32 → hh_S → Prop) (hq : wp_X8_isOpen x1 σ Q) : Met l yX8_isOpen wsX8_isOpen rm_X8_isOpen (va_Pc [.ref (ad 0), .int x1] (hh_B D hh_cl hc_Y cy ad σ)) (va_Qi Q (hh_B D hh_cl hc_Y cy ad) (hh_A hc_Y ad)) 0 0 (hh_A hc_Y ad) := by
  refine Met.ofW (cc := cX8_isOpen) (maxL := 5) (ret := (some .boolean)) (by decide) rfl ?_
  intro p e s m args below meth c s₁ B hml hv
  obtain ⟨hargs, hP0, hK0⟩ := hv
  have hr := B.returns
  have hlocks := B.notSynchronized
  have X : hh_X p m c cX8_isOpen 5 s args wsX8_isOpen RX8 D hh_cl hc_Y cy ad := ⟨⟨B.exec, B.bytes, hml, findClass_of_methodNamed B.named, atoms_spec (ws := wsX8_isOpen) B.pre⟩, hK0, J⟩
  have hx := X.1.1
  have hb1 := X.1.2.1
  have h : hh_H D hh_cl hc_Y cy ad s.heap σ s.heap [] := ⟨hP0, va_S.rf⟩
  have lt_12 : ∀ (x1 : Int32) (x2 : Int32) (n : Nat) (x3 : Int32) (σ : hh_S) (H : Heap) (locs : List Loc) (ls : Array Slot), hh_lp1 (wq_X8_isOpen_12 x1 x2 Q) n x3 σ → hh_H D hh_cl hc_Y cy ad s.heap σ H locs → lv_has ls 5 [(0, .ref (ad 0)), (1, .int x1), (2, .int x2), (3, .int x3)] → W p l e (headSpec wsX8_isOpen rm_X8_isOpen).room s m args below meth c H locs 0 0 (MQ below (va_Qi Q (hh_B D hh_cl hc_Y cy ad) (hh_A hc_Y ad)) args s 0 0 (hh_A hc_Y ad)) (F0 m 12 ls []) := by
    intro x1 x2 n
    induction n with
    | zero => intro x3 σ H locs ls hq h hl; exact hq.elim
    | succ n ih =>
      intro x3 σ H locs ls hq h hl
      have hq : wq_X8_isOpen_12 x1 x2 Q (hh_lp1 (wq_X8_isOpen_12 x1 x2 Q) n) x3 σ := hq
      unfold wq_X8_isOpen_12 at hq
      refine lv_iload_n hx hb1 dX8_isOpen_12 rfl (lv_at hl 3 rfl) ?_
      refine lv_aload_n hx hb1 dX8_isOpen_13 rfl (lv_at hl 0 rfl) ?_
      refine hh_getr X h fc_0_1 in_X8_isOpen_X8 kc_0 (by decide) (List.mem_of_getElem? (i := 3) rfl) rfl dX8_isOpen_14 ?_
      refine hh_geti X h (q := 128) fc_2_0 rfl in_X8_isOpen_X6 kc_2 (by decide) (List.mem_of_getElem? (i := 4) rfl) rfl dX8_isOpen_17 ?_
      refine lv_icmp_ge (tgt := 92) hx hb1 dX8_isOpen_20 (by decide) (fun c1 => ?_) (fun c1 => ?_)
      · have hq := hq.1 c1
        refine lv_iconst (v := (1 : Int32)) hx hb1 dX8_isOpen_92 (by decide) ?_
        exact hh_zret X h hr hlocks rfl hq dX8_isOpen_93
      · have hq := hq.2 c1
        refine lv_aload_n hx hb1 dX8_isOpen_23 rfl (lv_at hl 0 rfl) ?_
        refine hh_getr X h fc_0_1 in_X8_isOpen_X8 kc_0 (by decide) (List.mem_of_getElem? (i := 3) rfl) rfl dX8_isOpen_24 ?_
        refine hh_getr X h fc_2_3 in_X8_isOpen_X6 kc_2 (by decide) (List.mem_of_getElem? (i := 5) rfl) rfl dX8_isOpen_27 ?_
        refine lv_iload_n hx hb1 dX8_isOpen_30 rfl (lv_at hl 2 rfl) ?_
        obtain ⟨h2, hq⟩ := hq
        refine hh_ild X h ac_13 h2 dX8_isOpen_31 ?_
        refine lv_iload_n hx hb1 dX8_isOpen_32 rfl (lv_at hl 3 rfl) ?_
        refine lv_ishr hx hb1 dX8_isOpen_33 ?_
        refine lv_iconst (v := (1 : Int32)) hx hb1 dX8_isOpen_34 (by decide) ?_
        refine lv_iand hx hb1 dX8_isOpen_35 ?_
        refine lv_iconst (v := (1 : Int32)) hx hb1 dX8_isOpen_36 (by decide) ?_
        refine lv_icmp_ne (tgt := 86) hx hb1 dX8_isOpen_37 (by decide) (fun c3 => ?_) (fun c3 => ?_)
        · have hq := hq.1 c3
          refine lv_iinc (v := (x3 + (1 : Int32))) (lv' := [(3, .int (x3 + (1 : Int32))), (0, .ref (ad 0)), (1, .int x1), (2, .int x2)]) hx hb1 dX8_isOpen_86 hl (k := 3) rfl rfl (by decide) rfl (fun ls hl => ?_)
          refine lv_goto (tgt := 12) hx hb1 dX8_isOpen_89 (by decide) ?_
          exact ih (x3 + (1 : Int32)) σ _ _ ls hq h (lv_sub hl [1, 2, 3, 0] rfl)
        · have hq := hq.2 c3
          refine lv_aload_n hx hb1 dX8_isOpen_40 rfl (lv_at hl 0 rfl) ?_
          refine hh_getr X h fc_0_2 in_X8_isOpen_X8 kc_0 (by decide) (List.mem_of_getElem? (i := 1) rfl) rfl dX8_isOpen_41 ?_
          refine lv_iload_n hx hb1 dX8_isOpen_44 rfl (lv_at hl 3 rfl) ?_
          refine lv_aload_n hx hb1 dX8_isOpen_45 rfl (lv_at hl 0 rfl) ?_
          refine hh_getr X h fc_0_2 in_X8_isOpen_X8 kc_0 (by decide) (List.mem_of_getElem? (i := 1) rfl) rfl dX8_isOpen_46 ?_
          refine hh_getr X h fc_4_2 in_X8_isOpen_X1 kc_4 (by decide) (List.mem_of_getElem? (i := 6) rfl) rfl dX8_isOpen_49 ?_
          refine lv_iload_n hx hb1 dX8_isOpen_52 rfl (lv_at hl 1 rfl) ?_
          obtain ⟨h4, hq⟩ := hq
          refine hh_ild X h ac_21 h4 dX8_isOpen_53 ?_
          refine hh_kI h (va_runV (As := [.int x3, .int (hh_rA σ 21 x1)]) (rest := []) X.1 (ad_X1_find (D := D) l J x3 (hh_rA σ 21 x1) σ _ hq) (cwV 2 X.1.2.2.2.2 gX8_isOpen_X1_find rfl rfl rfl nd_X1_find ⟨Nat.le_of_ble_eq_true rfl, Nat.le_of_ble_eq_true rfl⟩) (hh_preV X h fc_4_0 kc_4 [.int x3, .int (hh_rA σ 21 x1)]) rfl rfl hl.1 rfl (lv_room (Nat.le_of_ble_eq_true rfl)) dX8_isOpen_54 ⟨Nat.le_of_ble_eq_true rfl, Nat.le_of_ble_eq_true rfl⟩) (fun r5 σ6 H locs hq h => ?_)
          refine lv_istore (lv' := [(4, .int r5), (0, .ref (ad 0)), (1, .int x1), (2, .int x2), (3, .int x3)]) hx hb1 dX8_isOpen_57 hl (by decide) rfl (fun ls hl => ?_)
          refine lv_iload hx hb1 dX8_isOpen_59 (lv_at hl 0 rfl) ?_
          refine lv_bipush (v := (-6 : Int32)) hx hb1 dX8_isOpen_61 (by decide) ?_
          refine lv_icmp_eq (tgt := 84) hx hb1 dX8_isOpen_63 (by decide) (fun c7 => ?_) (fun c7 => ?_)
          · have hq := hq.1 c7
            refine lv_iconst (v := (0 : Int32)) hx hb1 dX8_isOpen_84 (by decide) ?_
            exact hh_zret X h hr hlocks rfl hq dX8_isOpen_85
          · have hq := hq.2 c7
            refine lv_aload_n hx hb1 dX8_isOpen_66 rfl (lv_at hl 1 rfl) ?_
            refine lv_iload hx hb1 dX8_isOpen_67 (lv_at hl 0 rfl) ?_
            refine hh_kI h (va_runV (As := [.int r5]) (rest := []) X.1 (ad_X8_sureOf (D := D) l J r5 σ6 _ hq) (cwV 1 X.1.2.2.2.2 gX8_isOpen_X8_sureOf rfl rfl rfl nd_X8_sureOf ⟨Nat.le_of_ble_eq_true rfl, Nat.le_of_ble_eq_true rfl⟩) (hh_preV X h fc_0_0 kc_0 [.int r5]) rfl rfl hl.1 rfl (lv_room (Nat.le_of_ble_eq_true rfl)) dX8_isOpen_69 ⟨Nat.le_of_ble_eq_true rfl, Nat.le_of_ble_eq_true rfl⟩) (fun r8 σ9 H locs hq h => ?_)
            refine lv_aload_n hx hb1 dX8_isOpen_72 rfl (lv_at hl 1 rfl) ?_
            refine hh_getr X h fc_0_1 in_X8_isOpen_X8 kc_0 (by decide) (List.mem_of_getElem? (i := 3) rfl) rfl dX8_isOpen_73 ?_
            refine hh_getr X h fc_2_4 in_X8_isOpen_X6 kc_2 (by decide) (List.mem_of_getElem? (i := 7) rfl) rfl dX8_isOpen_76 ?_
            refine lv_iload_n hx hb1 dX8_isOpen_79 rfl (lv_at hl 3 rfl) ?_
            obtain ⟨h10, hq⟩ := hq
            refine hh_ild X h ac_14 h10 dX8_isOpen_80 ?_
            refine lv_icmp_ge (tgt := 86) hx hb1 dX8_isOpen_81 (by decide) (fun c11 => ?_) (fun c11 => ?_)
            · have hq := hq.1 c11
              refine lv_iinc (v := (x3 + (1 : Int32))) (lv' := [(3, .int (x3 + (1 : Int32))), (4, .int r5), (0, .ref (ad 0)), (1, .int x1), (2, .int x2)]) hx hb1 dX8_isOpen_86 hl (k := 4) rfl rfl (by decide) rfl (fun ls hl => ?_)
              refine lv_goto (tgt := 12) hx hb1 dX8_isOpen_89 (by decide) ?_
              exact ih (x3 + (1 : Int32)) σ9 _ _ ls hq h (lv_sub hl [2, 3, 4, 0] rfl)
            · have hq := hq.2 c11
              refine lv_iconst (v := (0 : Int32)) hx hb1 dX8_isOpen_84 (by decide) ?_
              exact hh_zret X h hr hlocks rfl hq dX8_isOpen_85
  subst hargs
  refine hh_entry (vs := [.ref (ad 0), .int x1]) (Nat.le_of_ble_eq_true rfl) (fun ls hl => ?_)
  have hl : lv_has ls 5 [(0, .ref (ad 0)), (1, .int x1)] := hl
  have hq : wp_X8_isOpen x1 σ Q := hq
  unfold wp_X8_isOpen at hq
  refine lv_aload_n hx hb1 dX8_isOpen_0 rfl (lv_at hl 0 rfl) ?_
  refine hh_getr X h fc_0_2 in_X8_isOpen_X8 kc_0 (by decide) (List.mem_of_getElem? (i := 1) rfl) rfl dX8_isOpen_1 ?_
  refine hh_getr X h fc_4_1 in_X8_isOpen_X1 kc_4 (by decide) (List.mem_of_getElem? (i := 2) rfl) rfl dX8_isOpen_4 ?_
  refine lv_iload_n hx hb1 dX8_isOpen_7 rfl (lv_at hl 1 rfl) ?_
  obtain ⟨h12, hq⟩ := hq
  refine hh_ild X h ac_20 h12 dX8_isOpen_8 ?_
  refine lv_topi (fun v13 ev13 => ?_)
  have hq := hq v13 ev13
  refine lv_istore_n (lv' := [(2, .int v13), (0, .ref (ad 0)), (1, .int x1)]) hx hb1 dX8_isOpen_9 rfl hl (by decide) rfl (fun ls hl => ?_)
  refine lv_iconst (v := (0 : Int32)) hx hb1 dX8_isOpen_10 (by decide) ?_
  refine lv_istore_n (lv' := [(3, .int (0 : Int32)), (2, .int v13), (0, .ref (ad 0)), (1, .int x1)]) hx hb1 dX8_isOpen_11 rfl hl (by decide) rfl (fun ls hl => ?_)
  obtain ⟨n14, hq⟩ := hq
  exact lt_12 x1 v13 n14 (0 : Int32) σ _ _ ls hq h (lv_sub hl [2, 3, 1, 0] rfl)
theorem nd_X8_ofItem : yX8_ofItem.cls = RX8 ∧ yX8_ofItem.cls ≠ "java/lang/invoke/MethodHandle" ∧ yX8_ofItem.cls ≠ "java/lang/invoke/VarHandle" ∧ (parseMethodDescriptor yX8_ofItem.desc).map (fun d => d.parameters.length) = some 2 := by decide +kernel
abbrev rm_X8_ofItem : Room := { frames := 3, cells := 0, slots := 0, locals := 68 }
def wp_X8_ofItem (x1 : Int32) (x2 : Int32) (σ : hh_S) (Q : Int32 → hh_S → Prop) : Prop := (wp_X1_has x1 σ (fun (r1 : Int32) (σ2 : hh_S) => ((¬ r1 = 0 → ((x2.toInt = 0 → (vp_in x1 24 ∧ (Q (hh_rA σ2 20 x1) σ2))) ∧ (x2.toInt = 1 → (vp_in x1 24 ∧ (Q (hh_rA σ2 21 x1) σ2))) ∧ (x2.toInt = 2 → (vp_in x1 24 ∧ (Q (hh_rA σ2 22 x1) σ2))) ∧ (x2.toInt = 3 → (vp_in x1 24 ∧ (Q (hh_rA σ2 23 x1) σ2))) ∧ (x2.toInt = 4 → (vp_in x1 24 ∧ (Q (hh_rA σ2 24 x1) σ2))) ∧ (x2.toInt = 5 → (wp_X8_isOpen x1 σ2 (fun (r15 : Int32) (σ16 : hh_S) => ((r15 = 0 → (Q (0 : Int32) σ16)) ∧ (¬ r15 = 0 → (Q (1 : Int32) σ16)))))) ∧ (x2.toInt = 6 → (wp_X0_countTo x1 σ2 (fun (r19 : Int32) (σ20 : hh_S) => (Q r19 σ20)))) ∧ (x2.toInt = 7 → (wp_X2_greatest 0 x1 σ2 (fun (r22 : Int32) (σ23 : hh_S) => (Q r22 σ23)))) ∧ (x2.toInt = 8 → (wp_X8_sureOf x1 σ2 (fun (r25 : Int32) (σ26 : hh_S) => (Q r25 σ26)))) ∧ (x2.toInt = 9 → (vp_in x1 24 ∧ (Q (hh_rA σ2 25 x1) σ2))) ∧ ((x2.toInt < 0 ∨ 9 < x2.toInt) → (Q (-2 : Int32) σ2)))) ∧ (r1 = 0 → (Q (-1 : Int32) σ2)))))
theorem in_X8_ofItem_X8 : ∀ w ∈ u_ws RX8 TX8 13, w ∈ wsX8_ofItem := fun w h => List.mem_cons_of_mem _ (List.mem_append_left _ (List.mem_append_left _ (List.mem_append_left _ (List.mem_append_left _ (List.mem_append_right _ h)))))
theorem in_X8_ofItem_X1 : ∀ w ∈ u_ws RX1 TX1 7, w ∈ wsX8_ofItem := fun w h => List.mem_cons_of_mem _ (List.mem_append_left _ (List.mem_append_left _ (List.mem_append_left _ (List.mem_append_right _ h))))
theorem in_X8_ofItem_X6 : ∀ w ∈ u_ws RX6 TX6 5, w ∈ wsX8_ofItem := fun w h => List.mem_cons_of_mem _ (List.mem_append_left _ (List.mem_append_left _ (List.mem_append_right _ h)))
theorem in_X8_ofItem_X2 : ∀ w ∈ u_ws RX2 TX2 9, w ∈ wsX8_ofItem := fun w h => List.mem_cons_of_mem _ (List.mem_append_left _ (List.mem_append_right _ h))
theorem in_X8_ofItem_X0 : ∀ w ∈ u_ws RX0 TX0 4, w ∈ wsX8_ofItem := fun w h => List.mem_cons_of_mem _ (List.mem_append_right _ h)
set_option maxHeartbeats 4000000 in
set_option maxRecDepth 100000 in
theorem ad_X8_ofItem {D : va_G} (l : Launch) {cy : Nat → ClassId} {ad : Nat → Nat} (J : hh_J hc_Y ad) (x1 : Int32) (x2 : Int32) (σ : hh_S) (Q : Int32 → hh_S → Prop) (hq : wp_X8_ofItem x1 x2 σ Q) : Met l yX8_ofItem wsX8_ofItem rm_X8_ofItem (va_Pc [.ref (ad 0), .int x1, .int x2] (hh_B D hh_cl hc_Y cy ad σ)) (va_Qi Q (hh_B D hh_cl hc_Y cy ad) (hh_A hc_Y ad)) 0 0 (hh_A hc_Y ad) := by
  refine Met.ofW (cc := cX8_ofItem) (maxL := 3) (ret := (some .int)) (by decide) rfl ?_
  intro p e s m args below meth c s₁ B hml hv
  obtain ⟨hargs, hP0, hK0⟩ := hv
  have hr := B.returns
  have hlocks := B.notSynchronized
  have X : hh_X p m c cX8_ofItem 3 s args wsX8_ofItem RX8 D hh_cl hc_Y cy ad := ⟨⟨B.exec, B.bytes, hml, findClass_of_methodNamed B.named, atoms_spec (ws := wsX8_ofItem) B.pre⟩, hK0, J⟩
  have hx := X.1.1
  have hb1 := X.1.2.1
  have h : hh_H D hh_cl hc_Y cy ad s.heap σ s.heap [] := ⟨hP0, va_S.rf⟩
  subst hargs
  refine hh_entry (vs := [.ref (ad 0), .int x1, .int x2]) (Nat.le_of_ble_eq_true rfl) (fun ls hl => ?_)
  have hl : lv_has ls 3 [(0, .ref (ad 0)), (1, .int x1), (2, .int x2)] := hl
  have hq : wp_X8_ofItem x1 x2 σ Q := hq
  unfold wp_X8_ofItem at hq
  refine lv_aload_n hx hb1 dX8_ofItem_0 rfl (lv_at hl 0 rfl) ?_
  refine hh_getr X h fc_0_2 in_X8_ofItem_X8 kc_0 (by decide) (List.mem_of_getElem? (i := 1) rfl) rfl dX8_ofItem_1 ?_
  refine lv_iload_n hx hb1 dX8_ofItem_4 rfl (lv_at hl 1 rfl) ?_
  refine hh_kI h (va_runV (As := [.int x1]) (rest := []) X.1 (ad_X1_has (D := D) l J x1 σ _ hq) (cwV 1 X.1.2.2.2.2 gX8_ofItem_X1_has rfl rfl rfl nd_X1_has ⟨Nat.le_of_ble_eq_true rfl, Nat.le_of_ble_eq_true rfl⟩) (hh_preV X h fc_4_0 kc_4 [.int x1]) rfl rfl hl.1 rfl (lv_room (Nat.le_of_ble_eq_true rfl)) dX8_ofItem_5 ⟨Nat.le_of_ble_eq_true rfl, Nat.le_of_ble_eq_true rfl⟩) (fun r1 σ2 H locs hq h => ?_)
  refine lv_if_ne (tgt := 13) hx hb1 dX8_ofItem_8 (by decide) (fun c3 => ?_) (fun c3 => ?_)
  · have hq := hq.1 c3
    refine lv_iload_n hx hb1 dX8_ofItem_13 rfl (lv_at hl 2 rfl) ?_
    by_cases c4 : x2.toInt = 0
    · have hq := hq.1 c4
      refine hh_tabIn X (off := 54) (tgt := 68) 0 dX8_ofItem_14 c4 (by decide) (by decide) (by decide) (by decide) ?_
      refine lv_aload_n hx hb1 dX8_ofItem_68 rfl (lv_at hl 0 rfl) ?_
      refine hh_getr X h fc_0_2 in_X8_ofItem_X8 kc_0 (by decide) (List.mem_of_getElem? (i := 1) rfl) rfl dX8_ofItem_69 ?_
      refine hh_getr X h fc_4_1 in_X8_ofItem_X1 kc_4 (by decide) (List.mem_of_getElem? (i := 2) rfl) rfl dX8_ofItem_72 ?_
      refine lv_iload_n hx hb1 dX8_ofItem_75 rfl (lv_at hl 1 rfl) ?_
      obtain ⟨h5, hq⟩ := hq
      refine hh_ild X h ac_20 h5 dX8_ofItem_76 ?_
      exact hh_iret X h hr hlocks hq dX8_ofItem_77
    have hq := hq.2
    by_cases c6 : x2.toInt = 1
    · have hq := hq.1 c6
      refine hh_tabIn X (off := 64) (tgt := 78) 1 dX8_ofItem_14 c6 (by decide) (by decide) (by decide) (by decide) ?_
      refine lv_aload_n hx hb1 dX8_ofItem_78 rfl (lv_at hl 0 rfl) ?_
      refine hh_getr X h fc_0_2 in_X8_ofItem_X8 kc_0 (by decide) (List.mem_of_getElem? (i := 1) rfl) rfl dX8_ofItem_79 ?_
      refine hh_getr X h fc_4_2 in_X8_ofItem_X1 kc_4 (by decide) (List.mem_of_getElem? (i := 3) rfl) rfl dX8_ofItem_82 ?_
      refine lv_iload_n hx hb1 dX8_ofItem_85 rfl (lv_at hl 1 rfl) ?_
      obtain ⟨h7, hq⟩ := hq
      refine hh_ild X h ac_21 h7 dX8_ofItem_86 ?_
      exact hh_iret X h hr hlocks hq dX8_ofItem_87
    have hq := hq.2
    by_cases c8 : x2.toInt = 2
    · have hq := hq.1 c8
      refine hh_tabIn X (off := 74) (tgt := 88) 2 dX8_ofItem_14 c8 (by decide) (by decide) (by decide) (by decide) ?_
      refine lv_aload_n hx hb1 dX8_ofItem_88 rfl (lv_at hl 0 rfl) ?_
      refine hh_getr X h fc_0_2 in_X8_ofItem_X8 kc_0 (by decide) (List.mem_of_getElem? (i := 1) rfl) rfl dX8_ofItem_89 ?_
      refine hh_getr X h fc_4_3 in_X8_ofItem_X1 kc_4 (by decide) (List.mem_of_getElem? (i := 4) rfl) rfl dX8_ofItem_92 ?_
      refine lv_iload_n hx hb1 dX8_ofItem_95 rfl (lv_at hl 1 rfl) ?_
      obtain ⟨h9, hq⟩ := hq
      refine hh_ild X h ac_22 h9 dX8_ofItem_96 ?_
      exact hh_iret X h hr hlocks hq dX8_ofItem_97
    have hq := hq.2
    by_cases c10 : x2.toInt = 3
    · have hq := hq.1 c10
      refine hh_tabIn X (off := 84) (tgt := 98) 3 dX8_ofItem_14 c10 (by decide) (by decide) (by decide) (by decide) ?_
      refine lv_aload_n hx hb1 dX8_ofItem_98 rfl (lv_at hl 0 rfl) ?_
      refine hh_getr X h fc_0_2 in_X8_ofItem_X8 kc_0 (by decide) (List.mem_of_getElem? (i := 1) rfl) rfl dX8_ofItem_99 ?_
      refine hh_getr X h fc_4_4 in_X8_ofItem_X1 kc_4 (by decide) (List.mem_of_getElem? (i := 5) rfl) rfl dX8_ofItem_102 ?_
      refine lv_iload_n hx hb1 dX8_ofItem_105 rfl (lv_at hl 1 rfl) ?_
      obtain ⟨h11, hq⟩ := hq
      refine hh_ild X h ac_23 h11 dX8_ofItem_106 ?_
      exact hh_iret X h hr hlocks hq dX8_ofItem_107
    have hq := hq.2
    by_cases c12 : x2.toInt = 4
    · have hq := hq.1 c12
      refine hh_tabIn X (off := 94) (tgt := 108) 4 dX8_ofItem_14 c12 (by decide) (by decide) (by decide) (by decide) ?_
      refine lv_aload_n hx hb1 dX8_ofItem_108 rfl (lv_at hl 0 rfl) ?_
      refine hh_getr X h fc_0_2 in_X8_ofItem_X8 kc_0 (by decide) (List.mem_of_getElem? (i := 1) rfl) rfl dX8_ofItem_109 ?_
      refine hh_getr X h fc_4_5 in_X8_ofItem_X1 kc_4 (by decide) (List.mem_of_getElem? (i := 6) rfl) rfl dX8_ofItem_112 ?_
      refine lv_iload_n hx hb1 dX8_ofItem_115 rfl (lv_at hl 1 rfl) ?_
      obtain ⟨h13, hq⟩ := hq
      refine hh_ild X h ac_24 h13 dX8_ofItem_116 ?_
      exact hh_iret X h hr hlocks hq dX8_ofItem_117
    have hq := hq.2
    by_cases c14 : x2.toInt = 5
    · have hq := hq.1 c14
      refine hh_tabIn X (off := 104) (tgt := 118) 5 dX8_ofItem_14 c14 (by decide) (by decide) (by decide) (by decide) ?_
      refine lv_aload_n hx hb1 dX8_ofItem_118 rfl (lv_at hl 0 rfl) ?_
      refine lv_iload_n hx hb1 dX8_ofItem_119 rfl (lv_at hl 1 rfl) ?_
      refine hh_kI h (va_runV (As := [.int x1]) (rest := []) X.1 (ad_X8_isOpen (D := D) l J x1 σ2 _ hq) (cwV 1 X.1.2.2.2.2 gX8_ofItem_X8_isOpen rfl rfl rfl nd_X8_isOpen ⟨Nat.le_of_ble_eq_true rfl, Nat.le_of_ble_eq_true rfl⟩) (hh_preV X h fc_0_0 kc_0 [.int x1]) rfl rfl hl.1 rfl (lv_room (Nat.le_of_ble_eq_true rfl)) dX8_ofItem_120 ⟨Nat.le_of_ble_eq_true rfl, Nat.le_of_ble_eq_true rfl⟩) (fun r15 σ16 H locs hq h => ?_)
      refine lv_if_eq (tgt := 130) hx hb1 dX8_ofItem_123 (by decide) (fun c17 => ?_) (fun c17 => ?_)
      · have hq := hq.1 c17
        refine lv_iconst (v := (0 : Int32)) hx hb1 dX8_ofItem_130 (by decide) ?_
        exact hh_iret X h hr hlocks hq dX8_ofItem_131
      · have hq := hq.2 c17
        refine lv_iconst (v := (1 : Int32)) hx hb1 dX8_ofItem_126 (by decide) ?_
        refine lv_goto (tgt := 131) hx hb1 dX8_ofItem_127 (by decide) ?_
        exact hh_iret X h hr hlocks hq dX8_ofItem_131
    have hq := hq.2
    by_cases c18 : x2.toInt = 6
    · have hq := hq.1 c18
      refine hh_tabIn X (off := 118) (tgt := 132) 6 dX8_ofItem_14 c18 (by decide) (by decide) (by decide) (by decide) ?_
      refine lv_aload_n hx hb1 dX8_ofItem_132 rfl (lv_at hl 0 rfl) ?_
      refine hh_getr X h fc_0_3 in_X8_ofItem_X8 kc_0 (by decide) (List.mem_of_getElem? (i := 7) rfl) rfl dX8_ofItem_133 ?_
      refine lv_iload_n hx hb1 dX8_ofItem_136 rfl (lv_at hl 1 rfl) ?_
      refine hh_kI h (va_runV (As := [.int x1]) (rest := []) X.1 (ad_X0_countTo (D := D) l J x1 σ2 _ hq) (cwV 1 X.1.2.2.2.2 gX8_ofItem_X0_countTo rfl rfl rfl nd_X0_countTo ⟨Nat.le_of_ble_eq_true rfl, Nat.le_of_ble_eq_true rfl⟩) (hh_preV X h fc_5_0 kc_5 [.int x1]) rfl rfl hl.1 rfl (lv_room (Nat.le_of_ble_eq_true rfl)) dX8_ofItem_137 ⟨Nat.le_of_ble_eq_true rfl, Nat.le_of_ble_eq_true rfl⟩) (fun r19 σ20 H locs hq h => ?_)
      exact hh_iret X h hr hlocks hq dX8_ofItem_140
    have hq := hq.2
    by_cases c21 : x2.toInt = 7
    · have hq := hq.1 c21
      refine hh_tabIn X (off := 127) (tgt := 141) 7 dX8_ofItem_14 c21 (by decide) (by decide) (by decide) (by decide) ?_
      refine lv_aload_n hx hb1 dX8_ofItem_141 rfl (lv_at hl 0 rfl) ?_
      refine hh_getr X h fc_0_5 in_X8_ofItem_X8 kc_0 (by decide) (List.mem_of_getElem? (i := 8) rfl) rfl dX8_ofItem_142 ?_
      refine lv_iload_n hx hb1 dX8_ofItem_145 rfl (lv_at hl 1 rfl) ?_
      refine hh_kI h (va_runV (As := [.int x1]) (rest := []) X.1 (ad_X2_greatest (D := D) l J (b := 0) (Or.inl rfl) x1 σ2 _ hq) (cwV 1 X.1.2.2.2.2 gX8_ofItem_X2_greatest rfl rfl rfl nd_X2_greatest ⟨Nat.le_of_ble_eq_true rfl, Nat.le_of_ble_eq_true rfl⟩) (hh_preV X h fc_7_0 kc_7 [.int x1]) rfl rfl hl.1 rfl (lv_room (Nat.le_of_ble_eq_true rfl)) dX8_ofItem_146 ⟨Nat.le_of_ble_eq_true rfl, Nat.le_of_ble_eq_true rfl⟩) (fun r22 σ23 H locs hq h => ?_)
      exact hh_iret X h hr hlocks hq dX8_ofItem_149
    have hq := hq.2
    by_cases c24 : x2.toInt = 8
    · have hq := hq.1 c24
      refine hh_tabIn X (off := 136) (tgt := 150) 8 dX8_ofItem_14 c24 (by decide) (by decide) (by decide) (by decide) ?_
      refine lv_aload_n hx hb1 dX8_ofItem_150 rfl (lv_at hl 0 rfl) ?_
      refine lv_iload_n hx hb1 dX8_ofItem_151 rfl (lv_at hl 1 rfl) ?_
      refine hh_kI h (va_runV (As := [.int x1]) (rest := []) X.1 (ad_X8_sureOf (D := D) l J x1 σ2 _ hq) (cwV 1 X.1.2.2.2.2 gX8_ofItem_X8_sureOf rfl rfl rfl nd_X8_sureOf ⟨Nat.le_of_ble_eq_true rfl, Nat.le_of_ble_eq_true rfl⟩) (hh_preV X h fc_0_0 kc_0 [.int x1]) rfl rfl hl.1 rfl (lv_room (Nat.le_of_ble_eq_true rfl)) dX8_ofItem_152 ⟨Nat.le_of_ble_eq_true rfl, Nat.le_of_ble_eq_true rfl⟩) (fun r25 σ26 H locs hq h => ?_)
      exact hh_iret X h hr hlocks hq dX8_ofItem_155
    have hq := hq.2
    by_cases c27 : x2.toInt = 9
    · have hq := hq.1 c27
      refine hh_tabIn X (off := 142) (tgt := 156) 9 dX8_ofItem_14 c27 (by decide) (by decide) (by decide) (by decide) ?_
      refine lv_aload_n hx hb1 dX8_ofItem_156 rfl (lv_at hl 0 rfl) ?_
      refine hh_getr X h fc_0_2 in_X8_ofItem_X8 kc_0 (by decide) (List.mem_of_getElem? (i := 1) rfl) rfl dX8_ofItem_157 ?_
      refine hh_getr X h fc_4_6 in_X8_ofItem_X1 kc_4 (by decide) (List.mem_of_getElem? (i := 9) rfl) rfl dX8_ofItem_160 ?_
      refine lv_iload_n hx hb1 dX8_ofItem_163 rfl (lv_at hl 1 rfl) ?_
      obtain ⟨h28, hq⟩ := hq
      refine hh_ild X h ac_25 h28 dX8_ofItem_164 ?_
      exact hh_iret X h hr hlocks hq dX8_ofItem_165
    have hq := hq.2
    have c29 := hh_out9 c4 c6 c8 c10 c12 c14 c18 c21 c24 c27
    have hq := hq c29
    refine hh_tabOut X (tgt := 166) dX8_ofItem_14 c29 (by decide) ?_
    refine lv_bipush (v := (-2 : Int32)) hx hb1 dX8_ofItem_166 (by decide) ?_
    exact hh_iret X h hr hlocks hq dX8_ofItem_168
  · have hq := hq.2 c3
    refine lv_iconst (v := (-1 : Int32)) hx hb1 dX8_ofItem_11 (by decide) ?_
    exact hh_iret X h hr hlocks hq dX8_ofItem_12
theorem nd_X8_hand : yX8_hand.cls = RX8 ∧ yX8_hand.cls ≠ "java/lang/invoke/MethodHandle" ∧ yX8_hand.cls ≠ "java/lang/invoke/VarHandle" ∧ (parseMethodDescriptor yX8_hand.desc).map (fun d => d.parameters.length) = some 0 := by decide +kernel
abbrev rm_X8_hand : Room := { frames := 1, cells := 0, slots := 0, locals := 22 }
def wp_X8_hand (σ : hh_S) (Q : Int32 → hh_S → Prop) : Prop := (((hh_I σ 320) < (10 : Int32) → (wp_X0_add σ (fun (r2 : Int32) (σ3 : hh_S) => (Q r2 σ3)))) ∧ (¬ (hh_I σ 320) < (10 : Int32) → (Q (-4 : Int32) σ)))
theorem in_X8_hand_X8 : ∀ w ∈ u_ws RX8 TX8 13, w ∈ wsX8_hand := fun w h => List.mem_cons_of_mem _ (List.mem_append_left _ (List.mem_append_right _ h))
theorem in_X8_hand_X0 : ∀ w ∈ u_ws RX0 TX0 4, w ∈ wsX8_hand := fun w h => List.mem_cons_of_mem _ (List.mem_append_right _ h)
set_option maxHeartbeats 4000000 in
set_option maxRecDepth 100000 in
theorem ad_X8_hand {D : va_G} (l : Launch) {cy : Nat → ClassId} {ad : Nat → Nat} (J : hh_J hc_Y ad) (σ : hh_S) (Q : Int32 → hh_S → Prop) (hq : wp_X8_hand σ Q) : Met l yX8_hand wsX8_hand rm_X8_hand (va_Pc [.ref (ad 0)] (hh_B D hh_cl hc_Y cy ad σ)) (va_Qi Q (hh_B D hh_cl hc_Y cy ad) (hh_A hc_Y ad)) 0 0 (hh_A hc_Y ad) := by
  refine Met.ofW (cc := cX8_hand) (maxL := 1) (ret := (some .int)) (by decide) rfl ?_
  intro p e s m args below meth c s₁ B hml hv
  obtain ⟨hargs, hP0, hK0⟩ := hv
  have hr := B.returns
  have hlocks := B.notSynchronized
  have X : hh_X p m c cX8_hand 1 s args wsX8_hand RX8 D hh_cl hc_Y cy ad := ⟨⟨B.exec, B.bytes, hml, findClass_of_methodNamed B.named, atoms_spec (ws := wsX8_hand) B.pre⟩, hK0, J⟩
  have hx := X.1.1
  have hb1 := X.1.2.1
  have h : hh_H D hh_cl hc_Y cy ad s.heap σ s.heap [] := ⟨hP0, va_S.rf⟩
  subst hargs
  refine hh_entry (vs := [.ref (ad 0)]) (Nat.le_of_ble_eq_true rfl) (fun ls hl => ?_)
  have hl : lv_has ls 1 [(0, .ref (ad 0))] := hl
  have hq : wp_X8_hand σ Q := hq
  unfold wp_X8_hand at hq
  refine lv_aload_n hx hb1 dX8_hand_0 rfl (lv_at hl 0 rfl) ?_
  refine hh_getr X h fc_0_3 in_X8_hand_X8 kc_0 (by decide) (List.mem_of_getElem? (i := 1) rfl) rfl dX8_hand_1 ?_
  refine hh_geti X h (q := 320) fc_5_0 rfl in_X8_hand_X0 kc_5 (by decide) (List.mem_of_getElem? (i := 2) rfl) rfl dX8_hand_4 ?_
  refine lv_bipush (v := (10 : Int32)) hx hb1 dX8_hand_7 (by decide) ?_
  refine lv_icmp_lt (tgt := 15) hx hb1 dX8_hand_9 (by decide) (fun c1 => ?_) (fun c1 => ?_)
  · have hq := hq.1 c1
    refine lv_aload_n hx hb1 dX8_hand_15 rfl (lv_at hl 0 rfl) ?_
    refine hh_getr X h fc_0_3 in_X8_hand_X8 kc_0 (by decide) (List.mem_of_getElem? (i := 1) rfl) rfl dX8_hand_16 ?_
    refine hh_kI h (va_runV (As := []) (rest := []) X.1 (ad_X0_add (D := D) l J σ _ hq) (cwV 0 X.1.2.2.2.2 gX8_hand_X0_add rfl rfl rfl nd_X0_add ⟨Nat.le_of_ble_eq_true rfl, Nat.le_of_ble_eq_true rfl⟩) (hh_preV X h fc_5_0 kc_5 []) rfl rfl hl.1 rfl (lv_room (Nat.le_of_ble_eq_true rfl)) dX8_hand_19 ⟨Nat.le_of_ble_eq_true rfl, Nat.le_of_ble_eq_true rfl⟩) (fun r2 σ3 H locs hq h => ?_)
    exact hh_iret X h hr hlocks hq dX8_hand_22
  · have hq := hq.2 c1
    refine lv_bipush (v := (-4 : Int32)) hx hb1 dX8_hand_12 (by decide) ?_
    exact hh_iret X h hr hlocks hq dX8_hand_14
theorem nd_X8_out : yX8_out.cls = RX8 ∧ yX8_out.cls ≠ "java/lang/invoke/MethodHandle" ∧ yX8_out.cls ≠ "java/lang/invoke/VarHandle" ∧ (parseMethodDescriptor yX8_out.desc).map (fun d => d.parameters.length) = some 2 := by decide +kernel
abbrev rm_X8_out : Room := { frames := 1, cells := 0, slots := 0, locals := 21 }
def wp_X8_out (x1 : Int32) (x2 : Int32) (σ : hh_S) (Q : Int32 → hh_S → Prop) : Prop := (wp_X0_has x1 σ (fun (r1 : Int32) (σ2 : hh_S) => ((¬ r1 = 0 → (vp_in x1 10 ∧ (∀ v5 : Int32, v5 = (hh_rA σ2 26 x1) → (vp_in x1 10 ∧ ∀ σ7 : hh_S, σ7 = hh_sA σ2 26 x1 (vp_nar .boolean x2) → ((v5 = 0 → (Q (0 : Int32) σ7)) ∧ (¬ v5 = 0 → (Q (1 : Int32) σ7))))))) ∧ (r1 = 0 → (Q (-1 : Int32) σ2)))))
theorem in_X8_out_X8 : ∀ w ∈ u_ws RX8 TX8 13, w ∈ wsX8_out := fun w h => List.mem_cons_of_mem _ (List.mem_append_left _ (List.mem_append_right _ h))
theorem in_X8_out_X0 : ∀ w ∈ u_ws RX0 TX0 4, w ∈ wsX8_out := fun w h => List.mem_cons_of_mem _ (List.mem_append_right _ h)
set_option maxHeartbeats 4000000 in
set_option maxRecDepth 100000 in
theorem ad_X8_out {D : va_G} (l : Launch) {cy : Nat → ClassId} {ad : Nat → Nat} (J : hh_J hc_Y ad) (x1 : Int32) (x2 : Int32) (σ : hh_S) (Q : Int32 → hh_S → Prop) (hq : wp_X8_out x1 x2 σ Q) : Met l yX8_out wsX8_out rm_X8_out (va_Pc [.ref (ad 0), .int x1, .int x2] (hh_B D hh_cl hc_Y cy ad σ)) (va_Qi Q (hh_B D hh_cl hc_Y cy ad) (hh_A hc_Y ad)) 0 0 (hh_A hc_Y ad) := by
  refine Met.ofW (cc := cX8_out) (maxL := 4) (ret := (some .int)) (by decide) rfl ?_
  intro p e s m args below meth c s₁ B hml hv
  obtain ⟨hargs, hP0, hK0⟩ := hv
  have hr := B.returns
  have hlocks := B.notSynchronized
  have X : hh_X p m c cX8_out 4 s args wsX8_out RX8 D hh_cl hc_Y cy ad := ⟨⟨B.exec, B.bytes, hml, findClass_of_methodNamed B.named, atoms_spec (ws := wsX8_out) B.pre⟩, hK0, J⟩
  have hx := X.1.1
  have hb1 := X.1.2.1
  have h : hh_H D hh_cl hc_Y cy ad s.heap σ s.heap [] := ⟨hP0, va_S.rf⟩
  subst hargs
  refine hh_entry (vs := [.ref (ad 0), .int x1, .int x2]) (Nat.le_of_ble_eq_true rfl) (fun ls hl => ?_)
  have hl : lv_has ls 4 [(0, .ref (ad 0)), (1, .int x1), (2, .int x2)] := hl
  have hq : wp_X8_out x1 x2 σ Q := hq
  unfold wp_X8_out at hq
  refine lv_aload_n hx hb1 dX8_out_0 rfl (lv_at hl 0 rfl) ?_
  refine hh_getr X h fc_0_3 in_X8_out_X8 kc_0 (by decide) (List.mem_of_getElem? (i := 1) rfl) rfl dX8_out_1 ?_
  refine lv_iload_n hx hb1 dX8_out_4 rfl (lv_at hl 1 rfl) ?_
  refine hh_kI h (va_runV (As := [.int x1]) (rest := []) X.1 (ad_X0_has (D := D) l J x1 σ _ hq) (cwV 1 X.1.2.2.2.2 gX8_out_X0_has rfl rfl rfl nd_X0_has ⟨Nat.le_of_ble_eq_true rfl, Nat.le_of_ble_eq_true rfl⟩) (hh_preV X h fc_5_0 kc_5 [.int x1]) rfl rfl hl.1 rfl (lv_room (Nat.le_of_ble_eq_true rfl)) dX8_out_5 ⟨Nat.le_of_ble_eq_true rfl, Nat.le_of_ble_eq_true rfl⟩) (fun r1 σ2 H locs hq h => ?_)
  refine lv_if_ne (tgt := 13) hx hb1 dX8_out_8 (by decide) (fun c3 => ?_) (fun c3 => ?_)
  · have hq := hq.1 c3
    refine lv_aload_n hx hb1 dX8_out_13 rfl (lv_at hl 0 rfl) ?_
    refine hh_getr X h fc_0_3 in_X8_out_X8 kc_0 (by decide) (List.mem_of_getElem? (i := 1) rfl) rfl dX8_out_14 ?_
    refine hh_getr X h fc_5_1 in_X8_out_X0 kc_5 (by decide) (List.mem_of_getElem? (i := 2) rfl) rfl dX8_out_17 ?_
    refine lv_iload_n hx hb1 dX8_out_20 rfl (lv_at hl 1 rfl) ?_
    obtain ⟨h4, hq⟩ := hq
    refine hh_zld X h ac_26 h4 dX8_out_21 ?_
    refine lv_topi (fun v5 ev5 => ?_)
    have hq := hq v5 ev5
    refine lv_istore_n (lv' := [(3, .int v5), (0, .ref (ad 0)), (1, .int x1), (2, .int x2)]) hx hb1 dX8_out_22 rfl hl (by decide) rfl (fun ls hl => ?_)
    refine lv_aload_n hx hb1 dX8_out_23 rfl (lv_at hl 1 rfl) ?_
    refine hh_getr X h fc_0_3 in_X8_out_X8 kc_0 (by decide) (List.mem_of_getElem? (i := 1) rfl) rfl dX8_out_24 ?_
    refine hh_getr X h fc_5_1 in_X8_out_X0 kc_5 (by decide) (List.mem_of_getElem? (i := 2) rfl) rfl dX8_out_27 ?_
    refine lv_iload_n hx hb1 dX8_out_30 rfl (lv_at hl 2 rfl) ?_
    refine lv_iload_n hx hb1 dX8_out_31 rfl (lv_at hl 3 rfl) ?_
    obtain ⟨h6, hq⟩ := hq
    refine hh_zst X h ac_26 h6 dX8_out_32 (fun σ7 H locs eσ7 h => ?_)
    have hq := hq σ7 eσ7
    refine lv_iload_n hx hb1 dX8_out_33 rfl (lv_at hl 0 rfl) ?_
    refine lv_if_eq (tgt := 41) hx hb1 dX8_out_34 (by decide) (fun c8 => ?_) (fun c8 => ?_)
    · have hq := hq.1 c8
      refine lv_iconst (v := (0 : Int32)) hx hb1 dX8_out_41 (by decide) ?_
      exact hh_iret X h hr hlocks hq dX8_out_42
    · have hq := hq.2 c8
      refine lv_iconst (v := (1 : Int32)) hx hb1 dX8_out_37 (by decide) ?_
      refine lv_goto (tgt := 42) hx hb1 dX8_out_38 (by decide) ?_
      exact hh_iret X h hr hlocks hq dX8_out_42
  · have hq := hq.2 c3
    refine lv_iconst (v := (-1 : Int32)) hx hb1 dX8_out_11 (by decide) ?_
    exact hh_iret X h hr hlocks hq dX8_out_12
theorem nd_X8_answer : yX8_answer.cls = RX8 ∧ yX8_answer.cls ≠ "java/lang/invoke/MethodHandle" ∧ yX8_answer.cls ≠ "java/lang/invoke/VarHandle" ∧ (parseMethodDescriptor yX8_answer.desc).map (fun d => d.parameters.length) = some 3 := by decide +kernel
abbrev rm_X8_answer : Room := { frames := 3, cells := 0, slots := 0, locals := 68 }
def wp_X8_answer (x1 : Int32) (x2 : Int32) (x3 : Int32) (σ : hh_S) (Q : Int32 → hh_S → Prop) : Prop := (wp_X0_has x1 σ (fun (r1 : Int32) (σ2 : hh_S) => ((r1 = 0 → (Q (-1 : Int32) σ2)) ∧ (¬ r1 = 0 → (wp_X1_hasLabel x2 x3 σ2 (fun (r4 : Int32) (σ5 : hh_S) => ((¬ r4 = 0 → (vp_in x1 10 ∧ ((¬ (hh_rA σ5 26 x1) = 0 → (Q (-3 : Int32) σ5)) ∧ ((hh_rA σ5 26 x1) = 0 → (wp_X8_isOpen x2 σ5 (fun (r9 : Int32) (σ10 : hh_S) => ((¬ r9 = 0 → (vp_in x1 10 ∧ (vp_in x2 24 ∧ (((hh_rA σ10 (45 + (x1).toNatClampNeg) x2) = (-6 : Int32) → (vp_in x1 10 ∧ (vp_in x2 24 ∧ ∀ σ17 : hh_S, σ17 = hh_sA σ10 (45 + (x1).toNatClampNeg) x2 x3 → (Q (1 : Int32) σ17)))) ∧ (¬ (hh_rA σ10 (45 + (x1).toNatClampNeg) x2) = (-6 : Int32) → (Q (-5 : Int32) σ10)))))) ∧ (r9 = 0 → (Q (-3 : Int32) σ10))))))))) ∧ (r4 = 0 → (Q (-1 : Int32) σ5)))))))))
theorem in_X8_answer_X8 : ∀ w ∈ u_ws RX8 TX8 13, w ∈ wsX8_answer := fun w h => List.mem_cons_of_mem _ (List.mem_append_left _ (List.mem_append_left _ (List.mem_append_left _ (List.mem_append_left _ (List.mem_append_right _ h)))))
theorem in_X8_answer_X0 : ∀ w ∈ u_ws RX0 TX0 4, w ∈ wsX8_answer := fun w h => List.mem_cons_of_mem _ (List.mem_append_left _ (List.mem_append_left _ (List.mem_append_left _ (List.mem_append_right _ h))))
theorem in_X8_answer_X1 : ∀ w ∈ u_ws RX1 TX1 7, w ∈ wsX8_answer := fun w h => List.mem_cons_of_mem _ (List.mem_append_left _ (List.mem_append_left _ (List.mem_append_right _ h)))
theorem in_X8_answer_X6 : ∀ w ∈ u_ws RX6 TX6 5, w ∈ wsX8_answer := fun w h => List.mem_cons_of_mem _ (List.mem_append_left _ (List.mem_append_right _ h))
theorem in_X8_answer_X2 : ∀ w ∈ u_ws RX2 TX2 9, w ∈ wsX8_answer := fun w h => List.mem_cons_of_mem _ (List.mem_append_right _ h)
set_option maxHeartbeats 4000000 in
set_option maxRecDepth 100000 in
theorem ad_X8_answer {D : va_G} (l : Launch) {cy : Nat → ClassId} {ad : Nat → Nat} (J : hh_J hc_Y ad) (x1 : Int32) (x2 : Int32) (x3 : Int32) (σ : hh_S) (Q : Int32 → hh_S → Prop) (hq : wp_X8_answer x1 x2 x3 σ Q) : Met l yX8_answer wsX8_answer rm_X8_answer (va_Pc [.ref (ad 0), .int x1, .int x2, .int x3] (hh_B D hh_cl hc_Y cy ad σ)) (va_Qi Q (hh_B D hh_cl hc_Y cy ad) (hh_A hc_Y ad)) 0 0 (hh_A hc_Y ad) := by
  refine Met.ofW (cc := cX8_answer) (maxL := 4) (ret := (some .int)) (by decide) rfl ?_
  intro p e s m args below meth c s₁ B hml hv
  obtain ⟨hargs, hP0, hK0⟩ := hv
  have hr := B.returns
  have hlocks := B.notSynchronized
  have X : hh_X p m c cX8_answer 4 s args wsX8_answer RX8 D hh_cl hc_Y cy ad := ⟨⟨B.exec, B.bytes, hml, findClass_of_methodNamed B.named, atoms_spec (ws := wsX8_answer) B.pre⟩, hK0, J⟩
  have hx := X.1.1
  have hb1 := X.1.2.1
  have h : hh_H D hh_cl hc_Y cy ad s.heap σ s.heap [] := ⟨hP0, va_S.rf⟩
  subst hargs
  refine hh_entry (vs := [.ref (ad 0), .int x1, .int x2, .int x3]) (Nat.le_of_ble_eq_true rfl) (fun ls hl => ?_)
  have hl : lv_has ls 4 [(0, .ref (ad 0)), (1, .int x1), (2, .int x2), (3, .int x3)] := hl
  have hq : wp_X8_answer x1 x2 x3 σ Q := hq
  unfold wp_X8_answer at hq
  refine lv_aload_n hx hb1 dX8_answer_0 rfl (lv_at hl 0 rfl) ?_
  refine hh_getr X h fc_0_3 in_X8_answer_X8 kc_0 (by decide) (List.mem_of_getElem? (i := 1) rfl) rfl dX8_answer_1 ?_
  refine lv_iload_n hx hb1 dX8_answer_4 rfl (lv_at hl 1 rfl) ?_
  refine hh_kI h (va_runV (As := [.int x1]) (rest := []) X.1 (ad_X0_has (D := D) l J x1 σ _ hq) (cwV 1 X.1.2.2.2.2 gX8_answer_X0_has rfl rfl rfl nd_X0_has ⟨Nat.le_of_ble_eq_true rfl, Nat.le_of_ble_eq_true rfl⟩) (hh_preV X h fc_5_0 kc_5 [.int x1]) rfl rfl hl.1 rfl (lv_room (Nat.le_of_ble_eq_true rfl)) dX8_answer_5 ⟨Nat.le_of_ble_eq_true rfl, Nat.le_of_ble_eq_true rfl⟩) (fun r1 σ2 H locs hq h => ?_)
  refine lv_if_eq (tgt := 23) hx hb1 dX8_answer_8 (by decide) (fun c3 => ?_) (fun c3 => ?_)
  · have hq := hq.1 c3
    refine lv_iconst (v := (-1 : Int32)) hx hb1 dX8_answer_23 (by decide) ?_
    exact hh_iret X h hr hlocks hq dX8_answer_24
  · have hq := hq.2 c3
    refine lv_aload_n hx hb1 dX8_answer_11 rfl (lv_at hl 0 rfl) ?_
    refine hh_getr X h fc_0_2 in_X8_answer_X8 kc_0 (by decide) (List.mem_of_getElem? (i := 2) rfl) rfl dX8_answer_12 ?_
    refine lv_iload_n hx hb1 dX8_answer_15 rfl (lv_at hl 2 rfl) ?_
    refine lv_iload_n hx hb1 dX8_answer_16 rfl (lv_at hl 3 rfl) ?_
    refine hh_kI h (va_runV (As := [.int x2, .int x3]) (rest := []) X.1 (ad_X1_hasLabel (D := D) l J x2 x3 σ2 _ hq) (cwV 2 X.1.2.2.2.2 gX8_answer_X1_hasLabel rfl rfl rfl nd_X1_hasLabel ⟨Nat.le_of_ble_eq_true rfl, Nat.le_of_ble_eq_true rfl⟩) (hh_preV X h fc_4_0 kc_4 [.int x2, .int x3]) rfl rfl hl.1 rfl (lv_room (Nat.le_of_ble_eq_true rfl)) dX8_answer_17 ⟨Nat.le_of_ble_eq_true rfl, Nat.le_of_ble_eq_true rfl⟩) (fun r4 σ5 H locs hq h => ?_)
    refine lv_if_ne (tgt := 25) hx hb1 dX8_answer_20 (by decide) (fun c6 => ?_) (fun c6 => ?_)
    · have hq := hq.1 c6
      refine lv_aload_n hx hb1 dX8_answer_25 rfl (lv_at hl 0 rfl) ?_
      refine hh_getr X h fc_0_3 in_X8_answer_X8 kc_0 (by decide) (List.mem_of_getElem? (i := 1) rfl) rfl dX8_answer_26 ?_
      refine hh_getr X h fc_5_1 in_X8_answer_X0 kc_5 (by decide) (List.mem_of_getElem? (i := 3) rfl) rfl dX8_answer_29 ?_
      refine lv_iload_n hx hb1 dX8_answer_32 rfl (lv_at hl 1 rfl) ?_
      obtain ⟨h7, hq⟩ := hq
      refine hh_zld X h ac_26 h7 dX8_answer_33 ?_
      refine lv_if_ne (tgt := 45) hx hb1 dX8_answer_34 (by decide) (fun c8 => ?_) (fun c8 => ?_)
      · have hq := hq.1 c8
        refine lv_bipush (v := (-3 : Int32)) hx hb1 dX8_answer_45 (by decide) ?_
        exact hh_iret X h hr hlocks hq dX8_answer_47
      · have hq := hq.2 c8
        refine lv_aload_n hx hb1 dX8_answer_37 rfl (lv_at hl 0 rfl) ?_
        refine lv_iload_n hx hb1 dX8_answer_38 rfl (lv_at hl 2 rfl) ?_
        refine hh_kI h (va_runV (As := [.int x2]) (rest := []) X.1 (ad_X8_isOpen (D := D) l J x2 σ5 _ hq) (cwV 1 X.1.2.2.2.2 gX8_answer_X8_isOpen rfl rfl rfl nd_X8_isOpen ⟨Nat.le_of_ble_eq_true rfl, Nat.le_of_ble_eq_true rfl⟩) (hh_preV X h fc_0_0 kc_0 [.int x2]) rfl rfl hl.1 rfl (lv_room (Nat.le_of_ble_eq_true rfl)) dX8_answer_39 ⟨Nat.le_of_ble_eq_true rfl, Nat.le_of_ble_eq_true rfl⟩) (fun r9 σ10 H locs hq h => ?_)
        refine lv_if_ne (tgt := 48) hx hb1 dX8_answer_42 (by decide) (fun c11 => ?_) (fun c11 => ?_)
        · have hq := hq.1 c11
          refine lv_aload_n hx hb1 dX8_answer_48 rfl (lv_at hl 0 rfl) ?_
          refine hh_getr X h fc_0_3 in_X8_answer_X8 kc_0 (by decide) (List.mem_of_getElem? (i := 1) rfl) rfl dX8_answer_49 ?_
          refine hh_getr X h fc_5_3 in_X8_answer_X0 kc_5 (by decide) (List.mem_of_getElem? (i := 4) rfl) rfl dX8_answer_52 ?_
          refine lv_iload_n hx hb1 dX8_answer_55 rfl (lv_at hl 1 rfl) ?_
          obtain ⟨h12, hq⟩ := hq
          refine hh_ald X h ac_28 h12 dX8_answer_56 ?_
          refine lv_iload_n hx hb1 dX8_answer_57 rfl (lv_at hl 2 rfl) ?_
          obtain ⟨h13, hq⟩ := hq
          refine hh_ild X h (ar_said h12) h13 dX8_answer_58 ?_
          refine lv_bipush (v := (-6 : Int32)) hx hb1 dX8_answer_59 (by decide) ?_
          refine lv_icmp_eq (tgt := 67) hx hb1 dX8_answer_61 (by decide) (fun c14 => ?_) (fun c14 => ?_)
          · have hq := hq.1 c14
            refine lv_aload_n hx hb1 dX8_answer_67 rfl (lv_at hl 0 rfl) ?_
            refine hh_getr X h fc_0_3 in_X8_answer_X8 kc_0 (by decide) (List.mem_of_getElem? (i := 1) rfl) rfl dX8_answer_68 ?_
            refine hh_getr X h fc_5_3 in_X8_answer_X0 kc_5 (by decide) (List.mem_of_getElem? (i := 4) rfl) rfl dX8_answer_71 ?_
            refine lv_iload_n hx hb1 dX8_answer_74 rfl (lv_at hl 1 rfl) ?_
            obtain ⟨h15, hq⟩ := hq
            refine hh_ald X h ac_28 h15 dX8_answer_75 ?_
            refine lv_iload_n hx hb1 dX8_answer_76 rfl (lv_at hl 2 rfl) ?_
            refine lv_iload_n hx hb1 dX8_answer_77 rfl (lv_at hl 3 rfl) ?_
            obtain ⟨h16, hq⟩ := hq
            refine hh_ist X h (ar_said h15) h16 dX8_answer_78 (fun σ17 H locs eσ17 h => ?_)
            have hq := hq σ17 eσ17
            refine lv_iconst (v := (1 : Int32)) hx hb1 dX8_answer_79 (by decide) ?_
            exact hh_iret X h hr hlocks hq dX8_answer_80
          · have hq := hq.2 c14
            refine lv_bipush (v := (-5 : Int32)) hx hb1 dX8_answer_64 (by decide) ?_
            exact hh_iret X h hr hlocks hq dX8_answer_66
        · have hq := hq.2 c11
          refine lv_bipush (v := (-3 : Int32)) hx hb1 dX8_answer_45 (by decide) ?_
          exact hh_iret X h hr hlocks hq dX8_answer_47
    · have hq := hq.2 c6
      refine lv_iconst (v := (-1 : Int32)) hx hb1 dX8_answer_23 (by decide) ?_
      exact hh_iret X h hr hlocks hq dX8_answer_24
theorem nd_X8_back : yX8_back.cls = RX8 ∧ yX8_back.cls ≠ "java/lang/invoke/MethodHandle" ∧ yX8_back.cls ≠ "java/lang/invoke/VarHandle" ∧ (parseMethodDescriptor yX8_back.desc).map (fun d => d.parameters.length) = some 2 := by decide +kernel
abbrev rm_X8_back : Room := { frames := 1, cells := 0, slots := 0, locals := 21 }
def wp_X8_back (x1 : Int32) (x2 : Int32) (σ : hh_S) (Q : Int32 → hh_S → Prop) : Prop := (wp_X0_has x1 σ (fun (r1 : Int32) (σ2 : hh_S) => ((r1 = 0 → (Q (-1 : Int32) σ2)) ∧ (¬ r1 = 0 → (wp_X1_has x2 σ2 (fun (r4 : Int32) (σ5 : hh_S) => ((¬ r4 = 0 → (vp_in x1 10 ∧ (vp_in x2 24 ∧ (∀ v9 : Int32, v9 = (hh_rA σ5 (45 + (x1).toNatClampNeg) x2) → ((¬ v9 = (-6 : Int32) → (vp_in x1 10 ∧ (vp_in x2 24 ∧ ∀ σ13 : hh_S, σ13 = hh_sA σ5 (45 + (x1).toNatClampNeg) x2 (-6 : Int32) → (Q v9 σ13)))) ∧ (v9 = (-6 : Int32) → (Q (-5 : Int32) σ5))))))) ∧ (r4 = 0 → (Q (-1 : Int32) σ5)))))))))
theorem in_X8_back_X8 : ∀ w ∈ u_ws RX8 TX8 13, w ∈ wsX8_back := fun w h => List.mem_cons_of_mem _ (List.mem_append_left _ (List.mem_append_left _ (List.mem_append_right _ h)))
theorem in_X8_back_X0 : ∀ w ∈ u_ws RX0 TX0 4, w ∈ wsX8_back := fun w h => List.mem_cons_of_mem _ (List.mem_append_left _ (List.mem_append_right _ h))
theorem in_X8_back_X1 : ∀ w ∈ u_ws RX1 TX1 7, w ∈ wsX8_back := fun w h => List.mem_cons_of_mem _ (List.mem_append_right _ h)
set_option maxHeartbeats 4000000 in
set_option maxRecDepth 100000 in
theorem ad_X8_back {D : va_G} (l : Launch) {cy : Nat → ClassId} {ad : Nat → Nat} (J : hh_J hc_Y ad) (x1 : Int32) (x2 : Int32) (σ : hh_S) (Q : Int32 → hh_S → Prop) (hq : wp_X8_back x1 x2 σ Q) : Met l yX8_back wsX8_back rm_X8_back (va_Pc [.ref (ad 0), .int x1, .int x2] (hh_B D hh_cl hc_Y cy ad σ)) (va_Qi Q (hh_B D hh_cl hc_Y cy ad) (hh_A hc_Y ad)) 0 0 (hh_A hc_Y ad) := by
  refine Met.ofW (cc := cX8_back) (maxL := 4) (ret := (some .int)) (by decide) rfl ?_
  intro p e s m args below meth c s₁ B hml hv
  obtain ⟨hargs, hP0, hK0⟩ := hv
  have hr := B.returns
  have hlocks := B.notSynchronized
  have X : hh_X p m c cX8_back 4 s args wsX8_back RX8 D hh_cl hc_Y cy ad := ⟨⟨B.exec, B.bytes, hml, findClass_of_methodNamed B.named, atoms_spec (ws := wsX8_back) B.pre⟩, hK0, J⟩
  have hx := X.1.1
  have hb1 := X.1.2.1
  have h : hh_H D hh_cl hc_Y cy ad s.heap σ s.heap [] := ⟨hP0, va_S.rf⟩
  subst hargs
  refine hh_entry (vs := [.ref (ad 0), .int x1, .int x2]) (Nat.le_of_ble_eq_true rfl) (fun ls hl => ?_)
  have hl : lv_has ls 4 [(0, .ref (ad 0)), (1, .int x1), (2, .int x2)] := hl
  have hq : wp_X8_back x1 x2 σ Q := hq
  unfold wp_X8_back at hq
  refine lv_aload_n hx hb1 dX8_back_0 rfl (lv_at hl 0 rfl) ?_
  refine hh_getr X h fc_0_3 in_X8_back_X8 kc_0 (by decide) (List.mem_of_getElem? (i := 1) rfl) rfl dX8_back_1 ?_
  refine lv_iload_n hx hb1 dX8_back_4 rfl (lv_at hl 1 rfl) ?_
  refine hh_kI h (va_runV (As := [.int x1]) (rest := []) X.1 (ad_X0_has (D := D) l J x1 σ _ hq) (cwV 1 X.1.2.2.2.2 gX8_back_X0_has rfl rfl rfl nd_X0_has ⟨Nat.le_of_ble_eq_true rfl, Nat.le_of_ble_eq_true rfl⟩) (hh_preV X h fc_5_0 kc_5 [.int x1]) rfl rfl hl.1 rfl (lv_room (Nat.le_of_ble_eq_true rfl)) dX8_back_5 ⟨Nat.le_of_ble_eq_true rfl, Nat.le_of_ble_eq_true rfl⟩) (fun r1 σ2 H locs hq h => ?_)
  refine lv_if_eq (tgt := 22) hx hb1 dX8_back_8 (by decide) (fun c3 => ?_) (fun c3 => ?_)
  · have hq := hq.1 c3
    refine lv_iconst (v := (-1 : Int32)) hx hb1 dX8_back_22 (by decide) ?_
    exact hh_iret X h hr hlocks hq dX8_back_23
  · have hq := hq.2 c3
    refine lv_aload_n hx hb1 dX8_back_11 rfl (lv_at hl 0 rfl) ?_
    refine hh_getr X h fc_0_2 in_X8_back_X8 kc_0 (by decide) (List.mem_of_getElem? (i := 2) rfl) rfl dX8_back_12 ?_
    refine lv_iload_n hx hb1 dX8_back_15 rfl (lv_at hl 2 rfl) ?_
    refine hh_kI h (va_runV (As := [.int x2]) (rest := []) X.1 (ad_X1_has (D := D) l J x2 σ2 _ hq) (cwV 1 X.1.2.2.2.2 gX8_back_X1_has rfl rfl rfl nd_X1_has ⟨Nat.le_of_ble_eq_true rfl, Nat.le_of_ble_eq_true rfl⟩) (hh_preV X h fc_4_0 kc_4 [.int x2]) rfl rfl hl.1 rfl (lv_room (Nat.le_of_ble_eq_true rfl)) dX8_back_16 ⟨Nat.le_of_ble_eq_true rfl, Nat.le_of_ble_eq_true rfl⟩) (fun r4 σ5 H locs hq h => ?_)
    refine lv_if_ne (tgt := 24) hx hb1 dX8_back_19 (by decide) (fun c6 => ?_) (fun c6 => ?_)
    · have hq := hq.1 c6
      refine lv_aload_n hx hb1 dX8_back_24 rfl (lv_at hl 0 rfl) ?_
      refine hh_getr X h fc_0_3 in_X8_back_X8 kc_0 (by decide) (List.mem_of_getElem? (i := 1) rfl) rfl dX8_back_25 ?_
      refine hh_getr X h fc_5_3 in_X8_back_X0 kc_5 (by decide) (List.mem_of_getElem? (i := 3) rfl) rfl dX8_back_28 ?_
      refine lv_iload_n hx hb1 dX8_back_31 rfl (lv_at hl 1 rfl) ?_
      obtain ⟨h7, hq⟩ := hq
      refine hh_ald X h ac_28 h7 dX8_back_32 ?_
      refine lv_iload_n hx hb1 dX8_back_33 rfl (lv_at hl 2 rfl) ?_
      obtain ⟨h8, hq⟩ := hq
      refine hh_ild X h (ar_said h7) h8 dX8_back_34 ?_
      refine lv_topi (fun v9 ev9 => ?_)
      have hq := hq v9 ev9
      refine lv_istore_n (lv' := [(3, .int v9), (0, .ref (ad 0)), (1, .int x1), (2, .int x2)]) hx hb1 dX8_back_35 rfl hl (by decide) rfl (fun ls hl => ?_)
      refine lv_iload_n hx hb1 dX8_back_36 rfl (lv_at hl 0 rfl) ?_
      refine lv_bipush (v := (-6 : Int32)) hx hb1 dX8_back_37 (by decide) ?_
      refine lv_icmp_ne (tgt := 45) hx hb1 dX8_back_39 (by decide) (fun c10 => ?_) (fun c10 => ?_)
      · have hq := hq.1 c10
        refine lv_aload_n hx hb1 dX8_back_45 rfl (lv_at hl 1 rfl) ?_
        refine hh_getr X h fc_0_3 in_X8_back_X8 kc_0 (by decide) (List.mem_of_getElem? (i := 1) rfl) rfl dX8_back_46 ?_
        refine hh_getr X h fc_5_3 in_X8_back_X0 kc_5 (by decide) (List.mem_of_getElem? (i := 3) rfl) rfl dX8_back_49 ?_
        refine lv_iload_n hx hb1 dX8_back_52 rfl (lv_at hl 2 rfl) ?_
        obtain ⟨h11, hq⟩ := hq
        refine hh_ald X h ac_28 h11 dX8_back_53 ?_
        refine lv_iload_n hx hb1 dX8_back_54 rfl (lv_at hl 3 rfl) ?_
        refine lv_bipush (v := (-6 : Int32)) hx hb1 dX8_back_55 (by decide) ?_
        obtain ⟨h12, hq⟩ := hq
        refine hh_ist X h (ar_said h11) h12 dX8_back_57 (fun σ13 H locs eσ13 h => ?_)
        have hq := hq σ13 eσ13
        refine lv_iload_n hx hb1 dX8_back_58 rfl (lv_at hl 0 rfl) ?_
        exact hh_iret X h hr hlocks hq dX8_back_59
      · have hq := hq.2 c10
        refine lv_bipush (v := (-5 : Int32)) hx hb1 dX8_back_42 (by decide) ?_
        exact hh_iret X h hr hlocks hq dX8_back_44
    · have hq := hq.2 c6
      refine lv_iconst (v := (-1 : Int32)) hx hb1 dX8_back_22 (by decide) ?_
      exact hh_iret X h hr hlocks hq dX8_back_23
theorem nd_X8_said : yX8_said.cls = RX8 ∧ yX8_said.cls ≠ "java/lang/invoke/MethodHandle" ∧ yX8_said.cls ≠ "java/lang/invoke/VarHandle" ∧ (parseMethodDescriptor yX8_said.desc).map (fun d => d.parameters.length) = some 2 := by decide +kernel
abbrev rm_X8_said : Room := { frames := 1, cells := 0, slots := 0, locals := 21 }
def wp_X8_said (x1 : Int32) (x2 : Int32) (σ : hh_S) (Q : Int32 → hh_S → Prop) : Prop := (wp_X0_has x1 σ (fun (r1 : Int32) (σ2 : hh_S) => ((r1 = 0 → (Q (-1 : Int32) σ2)) ∧ (¬ r1 = 0 → (wp_X1_has x2 σ2 (fun (r4 : Int32) (σ5 : hh_S) => ((¬ r4 = 0 → (vp_in x1 10 ∧ (vp_in x2 24 ∧ (Q (hh_rA σ5 (45 + (x1).toNatClampNeg) x2) σ5)))) ∧ (r4 = 0 → (Q (-1 : Int32) σ5)))))))))
theorem in_X8_said_X8 : ∀ w ∈ u_ws RX8 TX8 13, w ∈ wsX8_said := fun w h => List.mem_cons_of_mem _ (List.mem_append_left _ (List.mem_append_left _ (List.mem_append_right _ h)))
theorem in_X8_said_X0 : ∀ w ∈ u_ws RX0 TX0 4, w ∈ wsX8_said := fun w h => List.mem_cons_of_mem _ (List.mem_append_left _ (List.mem_append_right _ h))
theorem in_X8_said_X1 : ∀ w ∈ u_ws RX1 TX1 7, w ∈ wsX8_said := fun w h => List.mem_cons_of_mem _ (List.mem_append_right _ h)
set_option maxHeartbeats 4000000 in
set_option maxRecDepth 100000 in
theorem ad_X8_said {D : va_G} (l : Launch) {cy : Nat → ClassId} {ad : Nat → Nat} (J : hh_J hc_Y ad) (x1 : Int32) (x2 : Int32) (σ : hh_S) (Q : Int32 → hh_S → Prop) (hq : wp_X8_said x1 x2 σ Q) : Met l yX8_said wsX8_said rm_X8_said (va_Pc [.ref (ad 0), .int x1, .int x2] (hh_B D hh_cl hc_Y cy ad σ)) (va_Qi Q (hh_B D hh_cl hc_Y cy ad) (hh_A hc_Y ad)) 0 0 (hh_A hc_Y ad) := by
  refine Met.ofW (cc := cX8_said) (maxL := 3) (ret := (some .int)) (by decide) rfl ?_
  intro p e s m args below meth c s₁ B hml hv
  obtain ⟨hargs, hP0, hK0⟩ := hv
  have hr := B.returns
  have hlocks := B.notSynchronized
  have X : hh_X p m c cX8_said 3 s args wsX8_said RX8 D hh_cl hc_Y cy ad := ⟨⟨B.exec, B.bytes, hml, findClass_of_methodNamed B.named, atoms_spec (ws := wsX8_said) B.pre⟩, hK0, J⟩
  have hx := X.1.1
  have hb1 := X.1.2.1
  have h : hh_H D hh_cl hc_Y cy ad s.heap σ s.heap [] := ⟨hP0, va_S.rf⟩
  subst hargs
  refine hh_entry (vs := [.ref (ad 0), .int x1, .int x2]) (Nat.le_of_ble_eq_true rfl) (fun ls hl => ?_)
  have hl : lv_has ls 3 [(0, .ref (ad 0)), (1, .int x1), (2, .int x2)] := hl
  have hq : wp_X8_said x1 x2 σ Q := hq
  unfold wp_X8_said at hq
  refine lv_aload_n hx hb1 dX8_said_0 rfl (lv_at hl 0 rfl) ?_
  refine hh_getr X h fc_0_3 in_X8_said_X8 kc_0 (by decide) (List.mem_of_getElem? (i := 1) rfl) rfl dX8_said_1 ?_
  refine lv_iload_n hx hb1 dX8_said_4 rfl (lv_at hl 1 rfl) ?_
  refine hh_kI h (va_runV (As := [.int x1]) (rest := []) X.1 (ad_X0_has (D := D) l J x1 σ _ hq) (cwV 1 X.1.2.2.2.2 gX8_said_X0_has rfl rfl rfl nd_X0_has ⟨Nat.le_of_ble_eq_true rfl, Nat.le_of_ble_eq_true rfl⟩) (hh_preV X h fc_5_0 kc_5 [.int x1]) rfl rfl hl.1 rfl (lv_room (Nat.le_of_ble_eq_true rfl)) dX8_said_5 ⟨Nat.le_of_ble_eq_true rfl, Nat.le_of_ble_eq_true rfl⟩) (fun r1 σ2 H locs hq h => ?_)
  refine lv_if_eq (tgt := 22) hx hb1 dX8_said_8 (by decide) (fun c3 => ?_) (fun c3 => ?_)
  · have hq := hq.1 c3
    refine lv_iconst (v := (-1 : Int32)) hx hb1 dX8_said_22 (by decide) ?_
    exact hh_iret X h hr hlocks hq dX8_said_23
  · have hq := hq.2 c3
    refine lv_aload_n hx hb1 dX8_said_11 rfl (lv_at hl 0 rfl) ?_
    refine hh_getr X h fc_0_2 in_X8_said_X8 kc_0 (by decide) (List.mem_of_getElem? (i := 2) rfl) rfl dX8_said_12 ?_
    refine lv_iload_n hx hb1 dX8_said_15 rfl (lv_at hl 2 rfl) ?_
    refine hh_kI h (va_runV (As := [.int x2]) (rest := []) X.1 (ad_X1_has (D := D) l J x2 σ2 _ hq) (cwV 1 X.1.2.2.2.2 gX8_said_X1_has rfl rfl rfl nd_X1_has ⟨Nat.le_of_ble_eq_true rfl, Nat.le_of_ble_eq_true rfl⟩) (hh_preV X h fc_4_0 kc_4 [.int x2]) rfl rfl hl.1 rfl (lv_room (Nat.le_of_ble_eq_true rfl)) dX8_said_16 ⟨Nat.le_of_ble_eq_true rfl, Nat.le_of_ble_eq_true rfl⟩) (fun r4 σ5 H locs hq h => ?_)
    refine lv_if_ne (tgt := 24) hx hb1 dX8_said_19 (by decide) (fun c6 => ?_) (fun c6 => ?_)
    · have hq := hq.1 c6
      refine lv_aload_n hx hb1 dX8_said_24 rfl (lv_at hl 0 rfl) ?_
      refine hh_getr X h fc_0_3 in_X8_said_X8 kc_0 (by decide) (List.mem_of_getElem? (i := 1) rfl) rfl dX8_said_25 ?_
      refine hh_getr X h fc_5_3 in_X8_said_X0 kc_5 (by decide) (List.mem_of_getElem? (i := 3) rfl) rfl dX8_said_28 ?_
      refine lv_iload_n hx hb1 dX8_said_31 rfl (lv_at hl 1 rfl) ?_
      obtain ⟨h7, hq⟩ := hq
      refine hh_ald X h ac_28 h7 dX8_said_32 ?_
      refine lv_iload_n hx hb1 dX8_said_33 rfl (lv_at hl 2 rfl) ?_
      obtain ⟨h8, hq⟩ := hq
      refine hh_ild X h (ar_said h7) h8 dX8_said_34 ?_
      exact hh_iret X h hr hlocks hq dX8_said_35
    · have hq := hq.2 c6
      refine lv_iconst (v := (-1 : Int32)) hx hb1 dX8_said_22 (by decide) ?_
      exact hh_iret X h hr hlocks hq dX8_said_23
theorem nd_X8_set : yX8_set.cls = RX8 ∧ yX8_set.cls ≠ "java/lang/invoke/MethodHandle" ∧ yX8_set.cls ≠ "java/lang/invoke/VarHandle" ∧ (parseMethodDescriptor yX8_set.desc).map (fun d => d.parameters.length) = some 2 := by decide +kernel
abbrev rm_X8_set : Room := { frames := 1, cells := 0, slots := 0, locals := 21 }
def wp_X8_set (x1 : Int32) (x2 : Int32) (σ : hh_S) (Q : Int32 → hh_S → Prop) : Prop := (wp_X5_allows x1 x2 σ (fun (r1 : Int32) (σ2 : hh_S) => ((¬ r1 = 0 → (vp_in x1 6 ∧ (∀ v5 : Int32, v5 = (hh_rA σ2 29 x1) → (vp_in x1 6 ∧ ∀ σ7 : hh_S, σ7 = hh_sA σ2 29 x1 x2 → (Q v5 σ7))))) ∧ (r1 = 0 → (Q (-2 : Int32) σ2)))))
theorem in_X8_set_X8 : ∀ w ∈ u_ws RX8 TX8 13, w ∈ wsX8_set := fun w h => List.mem_cons_of_mem _ (List.mem_append_left _ (List.mem_append_right _ h))
theorem in_X8_set_X5 : ∀ w ∈ u_ws RX5 TX5 1, w ∈ wsX8_set := fun w h => List.mem_cons_of_mem _ (List.mem_append_right _ h)
set_option maxHeartbeats 4000000 in
set_option maxRecDepth 100000 in
theorem ad_X8_set {D : va_G} (l : Launch) {cy : Nat → ClassId} {ad : Nat → Nat} (J : hh_J hc_Y ad) (x1 : Int32) (x2 : Int32) (σ : hh_S) (Q : Int32 → hh_S → Prop) (hq : wp_X8_set x1 x2 σ Q) : Met l yX8_set wsX8_set rm_X8_set (va_Pc [.ref (ad 0), .int x1, .int x2] (fun U => hh_B D hh_cl hc_Y cy ad σ U ∧ hz_Z ad U)) (va_Qi Q (hh_B D hh_cl hc_Y cy ad) (hh_A hc_Y ad)) 0 0 (hh_A hc_Y ad) := by
  refine Met.ofW (cc := cX8_set) (maxL := 4) (ret := (some .int)) (by decide) rfl ?_
  intro p e s m args below meth c s₁ B hml hv
  obtain ⟨hargs, ⟨hP0, hK0⟩, hZ0⟩ := hv
  obtain ⟨t1, t2, t3, z1, T1, z2, T2, z3, T3⟩ := id hZ0
  have hr := B.returns
  have hlocks := B.notSynchronized
  have X : hh_X p m c cX8_set 4 s args wsX8_set RX8 D hh_cl hc_Y cy ad := ⟨⟨B.exec, B.bytes, hml, findClass_of_methodNamed B.named, atoms_spec (ws := wsX8_set) B.pre⟩, hK0, J⟩
  have hx := X.1.1
  have hb1 := X.1.2.1
  have h : hh_H D hh_cl hc_Y cy ad s.heap σ s.heap [] := ⟨hP0, va_S.rf⟩
  subst hargs
  refine hh_entry (vs := [.ref (ad 0), .int x1, .int x2]) (Nat.le_of_ble_eq_true rfl) (fun ls hl => ?_)
  have hl : lv_has ls 4 [(0, .ref (ad 0)), (1, .int x1), (2, .int x2)] := hl
  have hq : wp_X8_set x1 x2 σ Q := hq
  unfold wp_X8_set at hq
  refine lv_iload_n hx hb1 dX8_set_0 rfl (lv_at hl 1 rfl) ?_
  refine lv_iload_n hx hb1 dX8_set_1 rfl (lv_at hl 2 rfl) ?_
  refine hh_kI h (va_runS (As := [.int x1, .int x2]) (rest := []) X.1 (ad_X5_allows (D := D) l J x1 x2 σ _ hq) (va_cwS 2 X.1.2.2.2.2 gX8_set_X5_allows rfl rfl rfl nd_X5_allows ⟨Nat.le_of_ble_eq_true rfl, Nat.le_of_ble_eq_true rfl⟩) (hz_preS X h hZ0 [.int x1, .int x2]) rfl rfl hl.1 rfl (lv_room (Nat.le_of_ble_eq_true rfl)) dX8_set_2 ⟨Nat.le_of_ble_eq_true rfl, Nat.le_of_ble_eq_true rfl⟩) (fun r1 σ2 H locs hq h => ?_)
  refine lv_if_ne (tgt := 11) hx hb1 dX8_set_5 (by decide) (fun c3 => ?_) (fun c3 => ?_)
  · have hq := hq.1 c3
    refine lv_aload_n hx hb1 dX8_set_11 rfl (lv_at hl 0 rfl) ?_
    refine hh_getr X h fc_0_4 in_X8_set_X8 kc_0 (by decide) (List.mem_of_getElem? (i := 1) rfl) rfl dX8_set_12 ?_
    refine hh_getr X h fc_6_0 in_X8_set_X5 kc_6 (by decide) (List.mem_of_getElem? (i := 2) rfl) rfl dX8_set_15 ?_
    refine lv_iload_n hx hb1 dX8_set_18 rfl (lv_at hl 1 rfl) ?_
    obtain ⟨h4, hq⟩ := hq
    refine hh_ild X h ac_29 h4 dX8_set_19 ?_
    refine lv_topi (fun v5 ev5 => ?_)
    have hq := hq v5 ev5
    refine lv_istore_n (lv' := [(3, .int v5), (0, .ref (ad 0)), (1, .int x1), (2, .int x2)]) hx hb1 dX8_set_20 rfl hl (by decide) rfl (fun ls hl => ?_)
    refine lv_aload_n hx hb1 dX8_set_21 rfl (lv_at hl 1 rfl) ?_
    refine hh_getr X h fc_0_4 in_X8_set_X8 kc_0 (by decide) (List.mem_of_getElem? (i := 1) rfl) rfl dX8_set_22 ?_
    refine hh_getr X h fc_6_0 in_X8_set_X5 kc_6 (by decide) (List.mem_of_getElem? (i := 2) rfl) rfl dX8_set_25 ?_
    refine lv_iload_n hx hb1 dX8_set_28 rfl (lv_at hl 2 rfl) ?_
    refine lv_iload_n hx hb1 dX8_set_29 rfl (lv_at hl 3 rfl) ?_
    obtain ⟨h6, hq⟩ := hq
    refine hh_ist X h ac_29 h6 dX8_set_30 (fun σ7 H locs eσ7 h => ?_)
    have hq := hq σ7 eσ7
    refine lv_iload_n hx hb1 dX8_set_31 rfl (lv_at hl 0 rfl) ?_
    exact hh_iret X h hr hlocks hq dX8_set_32
  · have hq := hq.2 c3
    refine lv_bipush (v := (-2 : Int32)) hx hb1 dX8_set_8 (by decide) ?_
    exact hh_iret X h hr hlocks hq dX8_set_10
theorem nd_X8_join : yX8_join.cls = RX8 ∧ yX8_join.cls ≠ "java/lang/invoke/MethodHandle" ∧ yX8_join.cls ≠ "java/lang/invoke/VarHandle" ∧ (parseMethodDescriptor yX8_join.desc).map (fun d => d.parameters.length) = some 0 := by decide +kernel
abbrev rm_X8_join : Room := { frames := 5, cells := 0, slots := 0, locals := 116 }
def wp_X8_join (σ : hh_S) (Q : Int32 → hh_S → Prop) : Prop := (∀ σ1 : hh_S, σ1 = hh_uI σ 9 (hh_I σ 320) → (wp_X2_run 0 σ1 (fun (r2 : Int32) (σ3 : hh_S) => (Q r2 σ3))))
theorem in_X8_join_X8 : ∀ w ∈ u_ws RX8 TX8 13, w ∈ wsX8_join := fun w h => List.mem_cons_of_mem _ (List.mem_append_left _ (List.mem_append_left _ (List.mem_append_left _ (List.mem_append_left _ (List.mem_append_right _ h)))))
theorem in_X8_join_X0 : ∀ w ∈ u_ws RX0 TX0 4, w ∈ wsX8_join := fun w h => List.mem_cons_of_mem _ (List.mem_append_left _ (List.mem_append_left _ (List.mem_append_left _ (List.mem_append_right _ h))))
theorem in_X8_join_X2 : ∀ w ∈ u_ws RX2 TX2 9, w ∈ wsX8_join := fun w h => List.mem_cons_of_mem _ (List.mem_append_left _ (List.mem_append_left _ (List.mem_append_right _ h)))
theorem in_X8_join_X5 : ∀ w ∈ u_ws RX5 TX5 1, w ∈ wsX8_join := fun w h => List.mem_cons_of_mem _ (List.mem_append_left _ (List.mem_append_right _ h))
theorem in_X8_join_X1 : ∀ w ∈ u_ws RX1 TX1 7, w ∈ wsX8_join := fun w h => List.mem_cons_of_mem _ (List.mem_append_right _ h)
set_option maxHeartbeats 4000000 in
set_option maxRecDepth 100000 in
theorem ad_X8_join {D : va_G} (l : Launch) {cy : Nat → ClassId} {ad : Nat → Nat} (J : hh_J hc_Y ad) (σ : hh_S) (Q : Int32 → hh_S → Prop) (hq : wp_X8_join σ Q) : Met l yX8_join wsX8_join rm_X8_join (va_Pc [.ref (ad 0)] (hh_B D hh_cl hc_Y cy ad σ)) (va_Qi Q (hh_B D hh_cl hc_Y cy ad) (hh_A hc_Y ad)) 0 0 (hh_A hc_Y ad) := by
  refine Met.ofW (cc := cX8_join) (maxL := 1) (ret := (some .int)) (by decide) rfl ?_
  intro p e s m args below meth c s₁ B hml hv
  obtain ⟨hargs, hP0, hK0⟩ := hv
  have hr := B.returns
  have hlocks := B.notSynchronized
  have X : hh_X p m c cX8_join 1 s args wsX8_join RX8 D hh_cl hc_Y cy ad := ⟨⟨B.exec, B.bytes, hml, findClass_of_methodNamed B.named, atoms_spec (ws := wsX8_join) B.pre⟩, hK0, J⟩
  have hx := X.1.1
  have hb1 := X.1.2.1
  have h : hh_H D hh_cl hc_Y cy ad s.heap σ s.heap [] := ⟨hP0, va_S.rf⟩
  subst hargs
  refine hh_entry (vs := [.ref (ad 0)]) (Nat.le_of_ble_eq_true rfl) (fun ls hl => ?_)
  have hl : lv_has ls 1 [(0, .ref (ad 0))] := hl
  have hq : wp_X8_join σ Q := hq
  unfold wp_X8_join at hq
  refine lv_aload_n hx hb1 dX8_join_0 rfl (lv_at hl 0 rfl) ?_
  refine lv_aload_n hx hb1 dX8_join_1 rfl (lv_at hl 0 rfl) ?_
  refine hh_getr X h fc_0_3 in_X8_join_X8 kc_0 (by decide) (List.mem_of_getElem? (i := 1) rfl) rfl dX8_join_2 ?_
  refine hh_geti X h (q := 320) fc_5_0 rfl in_X8_join_X0 kc_5 (by decide) (List.mem_of_getElem? (i := 2) rfl) rfl dX8_join_5 ?_
  refine hh_puti X h (q := 9) hc_n fc_0_9 rfl in_X8_join_X8 kc_0 tyX8 tyX8_ok nmX8 (by decide) (List.mem_of_getElem? (i := 3) rfl) rfl rfl rfl rfl dX8_join_8 (fun σ1 H locs eσ1 h => ?_)
  have hq := hq σ1 eσ1
  refine lv_aload_n hx hb1 dX8_join_11 rfl (lv_at hl 0 rfl) ?_
  refine hh_getr X h fc_0_5 in_X8_join_X8 kc_0 (by decide) (List.mem_of_getElem? (i := 4) rfl) rfl dX8_join_12 ?_
  refine hh_kI h (va_runV (As := []) (rest := []) X.1 (ad_X2_run (D := D) l J (b := 0) (Or.inl rfl) σ1 _ hq) (cwV 0 X.1.2.2.2.2 gX8_join_X2_run rfl rfl rfl nd_X2_run ⟨Nat.le_of_ble_eq_true rfl, Nat.le_of_ble_eq_true rfl⟩) (hh_preV X h fc_7_0 kc_7 []) rfl rfl hl.1 rfl (lv_room (Nat.le_of_ble_eq_true rfl)) dX8_join_15 ⟨Nat.le_of_ble_eq_true rfl, Nat.le_of_ble_eq_true rfl⟩) (fun r2 σ3 H locs hq h => ?_)
  exact hh_iret X h hr hlocks hq dX8_join_18
theorem nd_X8_share : yX8_share.cls = RX8 ∧ yX8_share.cls ≠ "java/lang/invoke/MethodHandle" ∧ yX8_share.cls ≠ "java/lang/invoke/VarHandle" ∧ (parseMethodDescriptor yX8_share.desc).map (fun d => d.parameters.length) = some 2 := by decide +kernel
abbrev rm_X8_share : Room := { frames := 2, cells := 0, slots := 0, locals := 43 }
def wp_X8_share (x1 : Int32) (x2 : Int32) (σ : hh_S) (Q : Int32 → hh_S → Prop) : Prop := (wp_X1_hasLabel x1 x2 σ (fun (r1 : Int32) (σ2 : hh_S) => ((¬ r1 = 0 → (vp_in x1 24 ∧ (vp_in x2 4 ∧ (Q (hh_rA σ2 (55 + (x1).toNatClampNeg) x2) σ2)))) ∧ (r1 = 0 → (Q (-1 : Int32) σ2)))))
theorem in_X8_share_X8 : ∀ w ∈ u_ws RX8 TX8 13, w ∈ wsX8_share := fun w h => List.mem_cons_of_mem _ (List.mem_append_left _ (List.mem_append_left _ (List.mem_append_right _ h)))
theorem in_X8_share_X2 : ∀ w ∈ u_ws RX2 TX2 9, w ∈ wsX8_share := fun w h => List.mem_cons_of_mem _ (List.mem_append_left _ (List.mem_append_right _ h))
theorem in_X8_share_X1 : ∀ w ∈ u_ws RX1 TX1 7, w ∈ wsX8_share := fun w h => List.mem_cons_of_mem _ (List.mem_append_right _ h)
set_option maxHeartbeats 4000000 in
set_option maxRecDepth 100000 in
theorem ad_X8_share {D : va_G} (l : Launch) {cy : Nat → ClassId} {ad : Nat → Nat} (J : hh_J hc_Y ad) (x1 : Int32) (x2 : Int32) (σ : hh_S) (Q : Int32 → hh_S → Prop) (hq : wp_X8_share x1 x2 σ Q) : Met l yX8_share wsX8_share rm_X8_share (va_Pc [.ref (ad 0), .int x1, .int x2] (hh_B D hh_cl hc_Y cy ad σ)) (va_Qi Q (hh_B D hh_cl hc_Y cy ad) (hh_A hc_Y ad)) 0 0 (hh_A hc_Y ad) := by
  refine Met.ofW (cc := cX8_share) (maxL := 3) (ret := (some .int)) (by decide) rfl ?_
  intro p e s m args below meth c s₁ B hml hv
  obtain ⟨hargs, hP0, hK0⟩ := hv
  have hr := B.returns
  have hlocks := B.notSynchronized
  have X : hh_X p m c cX8_share 3 s args wsX8_share RX8 D hh_cl hc_Y cy ad := ⟨⟨B.exec, B.bytes, hml, findClass_of_methodNamed B.named, atoms_spec (ws := wsX8_share) B.pre⟩, hK0, J⟩
  have hx := X.1.1
  have hb1 := X.1.2.1
  have h : hh_H D hh_cl hc_Y cy ad s.heap σ s.heap [] := ⟨hP0, va_S.rf⟩
  subst hargs
  refine hh_entry (vs := [.ref (ad 0), .int x1, .int x2]) (Nat.le_of_ble_eq_true rfl) (fun ls hl => ?_)
  have hl : lv_has ls 3 [(0, .ref (ad 0)), (1, .int x1), (2, .int x2)] := hl
  have hq : wp_X8_share x1 x2 σ Q := hq
  unfold wp_X8_share at hq
  refine lv_aload_n hx hb1 dX8_share_0 rfl (lv_at hl 0 rfl) ?_
  refine hh_getr X h fc_0_2 in_X8_share_X8 kc_0 (by decide) (List.mem_of_getElem? (i := 1) rfl) rfl dX8_share_1 ?_
  refine lv_iload_n hx hb1 dX8_share_4 rfl (lv_at hl 1 rfl) ?_
  refine lv_iload_n hx hb1 dX8_share_5 rfl (lv_at hl 2 rfl) ?_
  refine hh_kI h (va_runV (As := [.int x1, .int x2]) (rest := []) X.1 (ad_X1_hasLabel (D := D) l J x1 x2 σ _ hq) (cwV 2 X.1.2.2.2.2 gX8_share_X1_hasLabel rfl rfl rfl nd_X1_hasLabel ⟨Nat.le_of_ble_eq_true rfl, Nat.le_of_ble_eq_true rfl⟩) (hh_preV X h fc_4_0 kc_4 [.int x1, .int x2]) rfl rfl hl.1 rfl (lv_room (Nat.le_of_ble_eq_true rfl)) dX8_share_6 ⟨Nat.le_of_ble_eq_true rfl, Nat.le_of_ble_eq_true rfl⟩) (fun r1 σ2 H locs hq h => ?_)
  refine lv_if_ne (tgt := 14) hx hb1 dX8_share_9 (by decide) (fun c3 => ?_) (fun c3 => ?_)
  · have hq := hq.1 c3
    refine lv_aload_n hx hb1 dX8_share_14 rfl (lv_at hl 0 rfl) ?_
    refine hh_getr X h fc_0_5 in_X8_share_X8 kc_0 (by decide) (List.mem_of_getElem? (i := 2) rfl) rfl dX8_share_15 ?_
    refine hh_getr X h fc_7_0 in_X8_share_X2 kc_7 (by decide) (List.mem_of_getElem? (i := 3) rfl) rfl dX8_share_18 ?_
    refine lv_iload_n hx hb1 dX8_share_21 rfl (lv_at hl 1 rfl) ?_
    obtain ⟨h4, hq⟩ := hq
    refine hh_ald X h ac_30 h4 dX8_share_22 ?_
    refine lv_iload_n hx hb1 dX8_share_23 rfl (lv_at hl 2 rfl) ?_
    obtain ⟨h5, hq⟩ := hq
    refine hh_ild X h (ar_sh (b := 0) (Or.inl rfl) h4) h5 dX8_share_24 ?_
    exact hh_iret X h hr hlocks hq dX8_share_25
  · have hq := hq.2 c3
    refine lv_iconst (v := (-1 : Int32)) hx hb1 dX8_share_12 (by decide) ?_
    exact hh_iret X h hr hlocks hq dX8_share_13
theorem nd_X8_table : yX8_table.cls = RX8 ∧ yX8_table.cls ≠ "java/lang/invoke/MethodHandle" ∧ yX8_table.cls ≠ "java/lang/invoke/VarHandle" ∧ (parseMethodDescriptor yX8_table.desc).map (fun d => d.parameters.length) = some 4 := by decide +kernel
abbrev rm_X8_table : Room := { frames := 1, cells := 0, slots := 0, locals := 22 }
def wp_X8_table (x1 : Int32) (x2 : Int32) (x3 : Int32) (x4 : Int32) (σ : hh_S) (Q : Int32 → hh_S → Prop) : Prop := (wp_X0_has x1 σ (fun (r1 : Int32) (σ2 : hh_S) => ((¬ r1 = 0 → ((x2 < (2 : Int32) → (Q (-2 : Int32) σ2)) ∧ (¬ x2 < (2 : Int32) → (((4 : Int32) < x2 → (Q (-2 : Int32) σ2)) ∧ (¬ (4 : Int32) < x2 → ((x3 < 0 → (Q (-2 : Int32) σ2)) ∧ (¬ x3 < 0 → ((x2 ≤ x3 → (Q (-2 : Int32) σ2)) ∧ (¬ x2 ≤ x3 → ((x4 < 0 → (Q (-2 : Int32) σ2)) ∧ (¬ x4 < 0 → ((x4 < x2 → (((hh_I σ2 9) ≤ x1 → (Q (-6 : Int32) σ2)) ∧ (¬ (hh_I σ2 9) ≤ x1 → (vp_in x1 10 ∧ (wp_X2_spot x2 x3 x4 σ2 (fun (r12 : Int32) (σ13 : hh_S) => (vp_in r12 48 ∧ (Q (hh_rA σ13 (79 + (x1).toNatClampNeg) r12) σ13)))))))) ∧ (¬ x4 < x2 → (Q (-2 : Int32) σ2)))))))))))))) ∧ (r1 = 0 → (Q (-1 : Int32) σ2)))))
theorem in_X8_table_X8 : ∀ w ∈ u_ws RX8 TX8 13, w ∈ wsX8_table := fun w h => List.mem_cons_of_mem _ (List.mem_append_left _ (List.mem_append_left _ (List.mem_append_right _ h)))
theorem in_X8_table_X2 : ∀ w ∈ u_ws RX2 TX2 9, w ∈ wsX8_table := fun w h => List.mem_cons_of_mem _ (List.mem_append_left _ (List.mem_append_right _ h))
theorem in_X8_table_X0 : ∀ w ∈ u_ws RX0 TX0 4, w ∈ wsX8_table := fun w h => List.mem_cons_of_mem _ (List.mem_append_right _ h)
set_option maxHeartbeats 4000000 in
set_option maxRecDepth 100000 in
theorem ad_X8_table {D : va_G} (l : Launch) {cy : Nat → ClassId} {ad : Nat → Nat} (J : hh_J hc_Y ad) (x1 : Int32) (x2 : Int32) (x3 : Int32) (x4 : Int32) (σ : hh_S) (Q : Int32 → hh_S → Prop) (hq : wp_X8_table x1 x2 x3 x4 σ Q) : Met l yX8_table wsX8_table rm_X8_table (va_Pc [.ref (ad 0), .int x1, .int x2, .int x3, .int x4] (hh_B D hh_cl hc_Y cy ad σ)) (va_Qi Q (hh_B D hh_cl hc_Y cy ad) (hh_A hc_Y ad)) 0 0 (hh_A hc_Y ad) := by
  refine Met.ofW (cc := cX8_table) (maxL := 5) (ret := (some .int)) (by decide) rfl ?_
  intro p e s m args below meth c s₁ B hml hv
  obtain ⟨hargs, hP0, hK0⟩ := hv
  have hr := B.returns
  have hlocks := B.notSynchronized
  have X : hh_X p m c cX8_table 5 s args wsX8_table RX8 D hh_cl hc_Y cy ad := ⟨⟨B.exec, B.bytes, hml, findClass_of_methodNamed B.named, atoms_spec (ws := wsX8_table) B.pre⟩, hK0, J⟩
  have hx := X.1.1
  have hb1 := X.1.2.1
  have h : hh_H D hh_cl hc_Y cy ad s.heap σ s.heap [] := ⟨hP0, va_S.rf⟩
  subst hargs
  refine hh_entry (vs := [.ref (ad 0), .int x1, .int x2, .int x3, .int x4]) (Nat.le_of_ble_eq_true rfl) (fun ls hl => ?_)
  have hl : lv_has ls 5 [(0, .ref (ad 0)), (1, .int x1), (2, .int x2), (3, .int x3), (4, .int x4)] := hl
  have hq : wp_X8_table x1 x2 x3 x4 σ Q := hq
  unfold wp_X8_table at hq
  refine lv_aload_n hx hb1 dX8_table_0 rfl (lv_at hl 0 rfl) ?_
  refine hh_getr X h fc_0_3 in_X8_table_X8 kc_0 (by decide) (List.mem_of_getElem? (i := 1) rfl) rfl dX8_table_1 ?_
  refine lv_iload_n hx hb1 dX8_table_4 rfl (lv_at hl 1 rfl) ?_
  refine hh_kI h (va_runV (As := [.int x1]) (rest := []) X.1 (ad_X0_has (D := D) l J x1 σ _ hq) (cwV 1 X.1.2.2.2.2 gX8_table_X0_has rfl rfl rfl nd_X0_has ⟨Nat.le_of_ble_eq_true rfl, Nat.le_of_ble_eq_true rfl⟩) (hh_preV X h fc_5_0 kc_5 [.int x1]) rfl rfl hl.1 rfl (lv_room (Nat.le_of_ble_eq_true rfl)) dX8_table_5 ⟨Nat.le_of_ble_eq_true rfl, Nat.le_of_ble_eq_true rfl⟩) (fun r1 σ2 H locs hq h => ?_)
  refine lv_if_ne (tgt := 13) hx hb1 dX8_table_8 (by decide) (fun c3 => ?_) (fun c3 => ?_)
  · have hq := hq.1 c3
    refine lv_iload_n hx hb1 dX8_table_13 rfl (lv_at hl 2 rfl) ?_
    refine lv_iconst (v := (2 : Int32)) hx hb1 dX8_table_14 (by decide) ?_
    refine lv_icmp_lt (tgt := 43) hx hb1 dX8_table_15 (by decide) (fun c4 => ?_) (fun c4 => ?_)
    · have hq := hq.1 c4
      refine lv_bipush (v := (-2 : Int32)) hx hb1 dX8_table_43 (by decide) ?_
      exact hh_iret X h hr hlocks hq dX8_table_45
    · have hq := hq.2 c4
      refine lv_iload_n hx hb1 dX8_table_18 rfl (lv_at hl 2 rfl) ?_
      refine lv_iconst (v := (4 : Int32)) hx hb1 dX8_table_19 (by decide) ?_
      refine lv_icmp_gt (tgt := 43) hx hb1 dX8_table_20 (by decide) (fun c5 => ?_) (fun c5 => ?_)
      · have hq := hq.1 c5
        refine lv_bipush (v := (-2 : Int32)) hx hb1 dX8_table_43 (by decide) ?_
        exact hh_iret X h hr hlocks hq dX8_table_45
      · have hq := hq.2 c5
        refine lv_iload_n hx hb1 dX8_table_23 rfl (lv_at hl 3 rfl) ?_
        refine lv_if_lt (tgt := 43) hx hb1 dX8_table_24 (by decide) (fun c6 => ?_) (fun c6 => ?_)
        · have hq := hq.1 c6
          refine lv_bipush (v := (-2 : Int32)) hx hb1 dX8_table_43 (by decide) ?_
          exact hh_iret X h hr hlocks hq dX8_table_45
        · have hq := hq.2 c6
          refine lv_iload_n hx hb1 dX8_table_27 rfl (lv_at hl 3 rfl) ?_
          refine lv_iload_n hx hb1 dX8_table_28 rfl (lv_at hl 2 rfl) ?_
          refine lv_icmp_ge (tgt := 43) hx hb1 dX8_table_29 (by decide) (fun c7 => ?_) (fun c7 => ?_)
          · have hq := hq.1 c7
            refine lv_bipush (v := (-2 : Int32)) hx hb1 dX8_table_43 (by decide) ?_
            exact hh_iret X h hr hlocks hq dX8_table_45
          · have hq := hq.2 c7
            refine lv_iload hx hb1 dX8_table_32 (lv_at hl 4 rfl) ?_
            refine lv_if_lt (tgt := 43) hx hb1 dX8_table_34 (by decide) (fun c8 => ?_) (fun c8 => ?_)
            · have hq := hq.1 c8
              refine lv_bipush (v := (-2 : Int32)) hx hb1 dX8_table_43 (by decide) ?_
              exact hh_iret X h hr hlocks hq dX8_table_45
            · have hq := hq.2 c8
              refine lv_iload hx hb1 dX8_table_37 (lv_at hl 4 rfl) ?_
              refine lv_iload_n hx hb1 dX8_table_39 rfl (lv_at hl 2 rfl) ?_
              refine lv_icmp_lt (tgt := 46) hx hb1 dX8_table_40 (by decide) (fun c9 => ?_) (fun c9 => ?_)
              · have hq := hq.1 c9
                refine lv_iload_n hx hb1 dX8_table_46 rfl (lv_at hl 1 rfl) ?_
                refine lv_aload_n hx hb1 dX8_table_47 rfl (lv_at hl 0 rfl) ?_
                refine hh_geti X h (q := 9) fc_0_9 rfl in_X8_table_X8 kc_0 (by decide) (List.mem_of_getElem? (i := 2) rfl) rfl dX8_table_48 ?_
                refine lv_icmp_ge (tgt := 74) hx hb1 dX8_table_51 (by decide) (fun c10 => ?_) (fun c10 => ?_)
                · have hq := hq.1 c10
                  refine lv_bipush (v := (-6 : Int32)) hx hb1 dX8_table_74 (by decide) ?_
                  exact hh_iret X h hr hlocks hq dX8_table_76
                · have hq := hq.2 c10
                  refine lv_aload_n hx hb1 dX8_table_54 rfl (lv_at hl 0 rfl) ?_
                  refine hh_getr X h fc_0_5 in_X8_table_X8 kc_0 (by decide) (List.mem_of_getElem? (i := 3) rfl) rfl dX8_table_55 ?_
                  refine hh_getr X h fc_7_1 in_X8_table_X2 kc_7 (by decide) (List.mem_of_getElem? (i := 4) rfl) rfl dX8_table_58 ?_
                  refine lv_iload_n hx hb1 dX8_table_61 rfl (lv_at hl 1 rfl) ?_
                  obtain ⟨h11, hq⟩ := hq
                  refine hh_ald X h ac_31 h11 dX8_table_62 ?_
                  refine lv_iload_n hx hb1 dX8_table_63 rfl (lv_at hl 2 rfl) ?_
                  refine lv_iload_n hx hb1 dX8_table_64 rfl (lv_at hl 3 rfl) ?_
                  refine lv_iload hx hb1 dX8_table_65 (lv_at hl 4 rfl) ?_
                  refine hh_kI h (va_runS (As := [.int x2, .int x3, .int x4]) (rest := [.ref (ad (79 + (x1).toNatClampNeg))]) X.1 (ad_X2_spot (D := D) l J x2 x3 x4 σ2 _ hq) (va_cwS 3 X.1.2.2.2.2 gX8_table_X2_spot rfl rfl rfl nd_X2_spot ⟨Nat.le_of_ble_eq_true rfl, Nat.le_of_ble_eq_true rfl⟩) (hh_preS X h [.int x2, .int x3, .int x4]) rfl rfl hl.1 rfl (lv_room (Nat.le_of_ble_eq_true rfl)) dX8_table_67 ⟨Nat.le_of_ble_eq_true rfl, Nat.le_of_ble_eq_true rfl⟩) (fun r12 σ13 H locs hq h => ?_)
                  obtain ⟨h14, hq⟩ := hq
                  refine hh_ild X h (ar_nu (b := 0) (Or.inl rfl) h11) h14 dX8_table_70 ?_
                  refine lv_goto (tgt := 76) hx hb1 dX8_table_71 (by decide) ?_
                  exact hh_iret X h hr hlocks hq dX8_table_76
              · have hq := hq.2 c9
                refine lv_bipush (v := (-2 : Int32)) hx hb1 dX8_table_43 (by decide) ?_
                exact hh_iret X h hr hlocks hq dX8_table_45
  · have hq := hq.2 c3
    refine lv_iconst (v := (-1 : Int32)) hx hb1 dX8_table_11 (by decide) ?_
    exact hh_iret X h hr hlocks hq dX8_table_12
theorem nd_X8_seekHandFor : yX8_seekHandFor.cls = RX8 ∧ yX8_seekHandFor.cls ≠ "java/lang/invoke/MethodHandle" ∧ yX8_seekHandFor.cls ≠ "java/lang/invoke/VarHandle" ∧ (parseMethodDescriptor yX8_seekHandFor.desc).map (fun d => d.parameters.length) = some 1 := by decide +kernel
abbrev rm_X8_seekHandFor : Room := { frames := 2, cells := 0, slots := 0, locals := 69 }
def wq_X8_seekHandFor_2 (x1 : Int32) (Q : hh_S → Prop) (K2 : Int32 → hh_S → Prop) (x2 : Int32) (σ : hh_S) : Prop := (((hh_I σ 320) ≤ x2 → (Q σ)) ∧ (¬ (hh_I σ 320) ≤ x2 → (vp_in x2 10 ∧ ((¬ (hh_rA σ 26 x2) = 0 → (K2 (x2 + (1 : Int32)) σ)) ∧ ((hh_rA σ 26 x2) = 0 → (vp_in x2 10 ∧ (vp_in x1 24 ∧ ((¬ (hh_rA σ (45 + (x2).toNatClampNeg) x1) = (-6 : Int32) → (K2 (x2 + (1 : Int32)) σ)) ∧ ((hh_rA σ (45 + (x2).toNatClampNeg) x1) = (-6 : Int32) → (wp_X2_helpOf 0 x1 x2 σ (fun (r7 : Int32) (σ8 : hh_S) => ((r7 ≤ 0 → (K2 (x2 + (1 : Int32)) σ8)) ∧ (¬ r7 ≤ 0 → ((r7 ≤ (hh_I σ8 12) → (K2 (x2 + (1 : Int32)) σ8)) ∧ (¬ r7 ≤ (hh_I σ8 12) → (∀ σ11 : hh_S, σ11 = hh_uI σ8 10 x1 → (∀ σ12 : hh_S, σ12 = hh_uI σ11 11 x2 → (∀ σ13 : hh_S, σ13 = hh_uI σ12 12 r7 → (K2 (x2 + (1 : Int32)) σ13)))))))))))))))))))
def wp_X8_seekHandFor (x1 : Int32) (σ : hh_S) (Q : hh_S → Prop) : Prop := (∃ n : Nat, hh_lp1 (wq_X8_seekHandFor_2 x1 Q) n (0 : Int32) σ)
theorem in_X8_seekHandFor_X8 : ∀ w ∈ u_ws RX8 TX8 13, w ∈ wsX8_seekHandFor := fun w h => List.mem_cons_of_mem _ (List.mem_append_left _ (List.mem_append_left _ (List.mem_append_left _ (List.mem_append_right _ h))))
theorem in_X8_seekHandFor_X0 : ∀ w ∈ u_ws RX0 TX0 4, w ∈ wsX8_seekHandFor := fun w h => List.mem_cons_of_mem _ (List.mem_append_left _ (List.mem_append_left _ (List.mem_append_right _ h)))
theorem in_X8_seekHandFor_X2 : ∀ w ∈ u_ws RX2 TX2 9, w ∈ wsX8_seekHandFor := fun w h => List.mem_cons_of_mem _ (List.mem_append_left _ (List.mem_append_right _ h))
theorem in_X8_seekHandFor_X1 : ∀ w ∈ u_ws RX1 TX1 7, w ∈ wsX8_seekHandFor := fun w h => List.mem_cons_of_mem _ (List.mem_append_right _ h)
set_option maxHeartbeats 4000000 in
set_option maxRecDepth 100000 in
theorem ad_X8_seekHandFor {D : va_G} (l : Launch) {cy : Nat → ClassId} {ad : Nat → Nat} (J : hh_J hc_Y ad) (x1 : Int32) (σ : hh_S) (Q : hh_S → Prop) (hq : wp_X8_seekHandFor x1 σ Q) : Met l yX8_seekHandFor wsX8_seekHandFor rm_X8_seekHandFor (va_Pc [.ref (ad 0), .int x1] (hh_B D hh_cl hc_Y cy ad σ)) (va_Qv Q (hh_B D hh_cl hc_Y cy ad) (hh_A hc_Y ad)) 0 0 (hh_A hc_Y ad) := by
  refine Met.ofW (cc := cX8_seekHandFor) (maxL := 4) (ret := none) (by decide) rfl ?_
  intro p e s m args below meth c s₁ B hml hv
  obtain ⟨hargs, hP0, hK0⟩ := hv
  have hr := B.returns
  have hlocks := B.notSynchronized
  have X : hh_X p m c cX8_seekHandFor 4 s args wsX8_seekHandFor RX8 D hh_cl hc_Y cy ad := ⟨⟨B.exec, B.bytes, hml, findClass_of_methodNamed B.named, atoms_spec (ws := wsX8_seekHandFor) B.pre⟩, hK0, J⟩
  have hx := X.1.1
  have hb1 := X.1.2.1
  have h : hh_H D hh_cl hc_Y cy ad s.heap σ s.heap [] := ⟨hP0, va_S.rf⟩
  have lt_2 : ∀ (x1 : Int32) (n : Nat) (x2 : Int32) (σ : hh_S) (H : Heap) (locs : List Loc) (ls : Array Slot), hh_lp1 (wq_X8_seekHandFor_2 x1 Q) n x2 σ → hh_H D hh_cl hc_Y cy ad s.heap σ H locs → lv_has ls 4 [(0, .ref (ad 0)), (1, .int x1), (2, .int x2)] → W p l e (headSpec wsX8_seekHandFor rm_X8_seekHandFor).room s m args below meth c H locs 0 0 (MQ below (va_Qv Q (hh_B D hh_cl hc_Y cy ad) (hh_A hc_Y ad)) args s 0 0 (hh_A hc_Y ad)) (F0 m 2 ls []) := by
    intro x1 n
    induction n with
    | zero => intro x2 σ H locs ls hq h hl; exact hq.elim
    | succ n ih =>
      intro x2 σ H locs ls hq h hl
      have hq : wq_X8_seekHandFor_2 x1 Q (hh_lp1 (wq_X8_seekHandFor_2 x1 Q) n) x2 σ := hq
      unfold wq_X8_seekHandFor_2 at hq
      refine lv_iload_n hx hb1 dX8_seekHandFor_2 rfl (lv_at hl 2 rfl) ?_
      refine lv_aload_n hx hb1 dX8_seekHandFor_3 rfl (lv_at hl 0 rfl) ?_
      refine hh_getr X h fc_0_3 in_X8_seekHandFor_X8 kc_0 (by decide) (List.mem_of_getElem? (i := 1) rfl) rfl dX8_seekHandFor_4 ?_
      refine hh_geti X h (q := 320) fc_5_0 rfl in_X8_seekHandFor_X0 kc_5 (by decide) (List.mem_of_getElem? (i := 2) rfl) rfl dX8_seekHandFor_7 ?_
      refine lv_icmp_ge (tgt := 84) hx hb1 dX8_seekHandFor_10 (by decide) (fun c1 => ?_) (fun c1 => ?_)
      · have hq := hq.1 c1
        exact hh_vret X h hr hlocks hq dX8_seekHandFor_84
      · have hq := hq.2 c1
        refine lv_aload_n hx hb1 dX8_seekHandFor_13 rfl (lv_at hl 0 rfl) ?_
        refine hh_getr X h fc_0_3 in_X8_seekHandFor_X8 kc_0 (by decide) (List.mem_of_getElem? (i := 1) rfl) rfl dX8_seekHandFor_14 ?_
        refine hh_getr X h fc_5_1 in_X8_seekHandFor_X0 kc_5 (by decide) (List.mem_of_getElem? (i := 3) rfl) rfl dX8_seekHandFor_17 ?_
        refine lv_iload_n hx hb1 dX8_seekHandFor_20 rfl (lv_at hl 2 rfl) ?_
        obtain ⟨h2, hq⟩ := hq
        refine hh_zld X h ac_26 h2 dX8_seekHandFor_21 ?_
        refine lv_if_ne (tgt := 78) hx hb1 dX8_seekHandFor_22 (by decide) (fun c3 => ?_) (fun c3 => ?_)
        · have hq := hq.1 c3
          refine lv_iinc (v := (x2 + (1 : Int32))) (lv' := [(2, .int (x2 + (1 : Int32))), (0, .ref (ad 0)), (1, .int x1)]) hx hb1 dX8_seekHandFor_78 hl (k := 2) rfl rfl (by decide) rfl (fun ls hl => ?_)
          refine lv_goto (tgt := 2) hx hb1 dX8_seekHandFor_81 (by decide) ?_
          exact ih (x2 + (1 : Int32)) σ _ _ ls hq h (lv_sub hl [1, 2, 0] rfl)
        · have hq := hq.2 c3
          refine lv_aload_n hx hb1 dX8_seekHandFor_25 rfl (lv_at hl 0 rfl) ?_
          refine hh_getr X h fc_0_3 in_X8_seekHandFor_X8 kc_0 (by decide) (List.mem_of_getElem? (i := 1) rfl) rfl dX8_seekHandFor_26 ?_
          refine hh_getr X h fc_5_3 in_X8_seekHandFor_X0 kc_5 (by decide) (List.mem_of_getElem? (i := 4) rfl) rfl dX8_seekHandFor_29 ?_
          refine lv_iload_n hx hb1 dX8_seekHandFor_32 rfl (lv_at hl 2 rfl) ?_
          obtain ⟨h4, hq⟩ := hq
          refine hh_ald X h ac_28 h4 dX8_seekHandFor_33 ?_
          refine lv_iload_n hx hb1 dX8_seekHandFor_34 rfl (lv_at hl 1 rfl) ?_
          obtain ⟨h5, hq⟩ := hq
          refine hh_ild X h (ar_said h4) h5 dX8_seekHandFor_35 ?_
          refine lv_bipush (v := (-6 : Int32)) hx hb1 dX8_seekHandFor_36 (by decide) ?_
          refine lv_icmp_ne (tgt := 78) hx hb1 dX8_seekHandFor_38 (by decide) (fun c6 => ?_) (fun c6 => ?_)
          · have hq := hq.1 c6
            refine lv_iinc (v := (x2 + (1 : Int32))) (lv' := [(2, .int (x2 + (1 : Int32))), (0, .ref (ad 0)), (1, .int x1)]) hx hb1 dX8_seekHandFor_78 hl (k := 2) rfl rfl (by decide) rfl (fun ls hl => ?_)
            refine lv_goto (tgt := 2) hx hb1 dX8_seekHandFor_81 (by decide) ?_
            exact ih (x2 + (1 : Int32)) σ _ _ ls hq h (lv_sub hl [1, 2, 0] rfl)
          · have hq := hq.2 c6
            refine lv_aload_n hx hb1 dX8_seekHandFor_41 rfl (lv_at hl 0 rfl) ?_
            refine hh_getr X h fc_0_5 in_X8_seekHandFor_X8 kc_0 (by decide) (List.mem_of_getElem? (i := 5) rfl) rfl dX8_seekHandFor_42 ?_
            refine lv_iload_n hx hb1 dX8_seekHandFor_45 rfl (lv_at hl 1 rfl) ?_
            refine lv_iload_n hx hb1 dX8_seekHandFor_46 rfl (lv_at hl 2 rfl) ?_
            refine hh_kI h (va_runV (As := [.int x1, .int x2]) (rest := []) X.1 (ad_X2_helpOf (D := D) l J (b := 0) (Or.inl rfl) x1 x2 σ _ hq) (cwV 2 X.1.2.2.2.2 gX8_seekHandFor_X2_helpOf rfl rfl rfl nd_X2_helpOf ⟨Nat.le_of_ble_eq_true rfl, Nat.le_of_ble_eq_true rfl⟩) (hh_preV X h fc_7_0 kc_7 [.int x1, .int x2]) rfl rfl hl.1 rfl (lv_room (Nat.le_of_ble_eq_true rfl)) dX8_seekHandFor_47 ⟨Nat.le_of_ble_eq_true rfl, Nat.le_of_ble_eq_true rfl⟩) (fun r7 σ8 H locs hq h => ?_)
            refine lv_istore_n (lv' := [(3, .int r7), (0, .ref (ad 0)), (1, .int x1), (2, .int x2)]) hx hb1 dX8_seekHandFor_50 rfl hl (by decide) rfl (fun ls hl => ?_)
            refine lv_iload_n hx hb1 dX8_seekHandFor_51 rfl (lv_at hl 0 rfl) ?_
            refine lv_if_le (tgt := 78) hx hb1 dX8_seekHandFor_52 (by decide) (fun c9 => ?_) (fun c9 => ?_)
            · have hq := hq.1 c9
              refine lv_iinc (v := (x2 + (1 : Int32))) (lv' := [(2, .int (x2 + (1 : Int32))), (3, .int r7), (0, .ref (ad 0)), (1, .int x1)]) hx hb1 dX8_seekHandFor_78 hl (k := 3) rfl rfl (by decide) rfl (fun ls hl => ?_)
              refine lv_goto (tgt := 2) hx hb1 dX8_seekHandFor_81 (by decide) ?_
              exact ih (x2 + (1 : Int32)) σ8 _ _ ls hq h (lv_sub hl [2, 3, 0] rfl)
            · have hq := hq.2 c9
              refine lv_iload_n hx hb1 dX8_seekHandFor_55 rfl (lv_at hl 0 rfl) ?_
              refine lv_aload_n hx hb1 dX8_seekHandFor_56 rfl (lv_at hl 1 rfl) ?_
              refine hh_geti X h (q := 12) fc_0_12 rfl in_X8_seekHandFor_X8 kc_0 (by decide) (List.mem_of_getElem? (i := 6) rfl) rfl dX8_seekHandFor_57 ?_
              refine lv_icmp_le (tgt := 78) hx hb1 dX8_seekHandFor_60 (by decide) (fun c10 => ?_) (fun c10 => ?_)
              · have hq := hq.1 c10
                refine lv_iinc (v := (x2 + (1 : Int32))) (lv' := [(2, .int (x2 + (1 : Int32))), (3, .int r7), (0, .ref (ad 0)), (1, .int x1)]) hx hb1 dX8_seekHandFor_78 hl (k := 3) rfl rfl (by decide) rfl (fun ls hl => ?_)
                refine lv_goto (tgt := 2) hx hb1 dX8_seekHandFor_81 (by decide) ?_
                exact ih (x2 + (1 : Int32)) σ8 _ _ ls hq h (lv_sub hl [2, 3, 0] rfl)
              · have hq := hq.2 c10
                refine lv_aload_n hx hb1 dX8_seekHandFor_63 rfl (lv_at hl 1 rfl) ?_
                refine lv_iload_n hx hb1 dX8_seekHandFor_64 rfl (lv_at hl 2 rfl) ?_
                refine hh_puti X h (q := 10) hc_n fc_0_10 rfl in_X8_seekHandFor_X8 kc_0 tyX8 tyX8_ok nmX8 (by decide) (List.mem_of_getElem? (i := 7) rfl) rfl rfl rfl rfl dX8_seekHandFor_65 (fun σ11 H locs eσ11 h => ?_)
                have hq := hq σ11 eσ11
                refine lv_aload_n hx hb1 dX8_seekHandFor_68 rfl (lv_at hl 1 rfl) ?_
                refine lv_iload_n hx hb1 dX8_seekHandFor_69 rfl (lv_at hl 3 rfl) ?_
                refine hh_puti X h (q := 11) hc_n fc_0_11 rfl in_X8_seekHandFor_X8 kc_0 tyX8 tyX8_ok nmX8 (by decide) (List.mem_of_getElem? (i := 8) rfl) rfl rfl rfl rfl dX8_seekHandFor_70 (fun σ12 H locs eσ12 h => ?_)
                have hq := hq σ12 eσ12
                refine lv_aload_n hx hb1 dX8_seekHandFor_73 rfl (lv_at hl 1 rfl) ?_
                refine lv_iload_n hx hb1 dX8_seekHandFor_74 rfl (lv_at hl 0 rfl) ?_
                refine hh_puti X h (q := 12) hc_n fc_0_12 rfl in_X8_seekHandFor_X8 kc_0 tyX8 tyX8_ok nmX8 (by decide) (List.mem_of_getElem? (i := 6) rfl) rfl rfl rfl rfl dX8_seekHandFor_75 (fun σ13 H locs eσ13 h => ?_)
                have hq := hq σ13 eσ13
                refine lv_iinc (v := (x2 + (1 : Int32))) (lv' := [(2, .int (x2 + (1 : Int32))), (3, .int r7), (0, .ref (ad 0)), (1, .int x1)]) hx hb1 dX8_seekHandFor_78 hl (k := 3) rfl rfl (by decide) rfl (fun ls hl => ?_)
                refine lv_goto (tgt := 2) hx hb1 dX8_seekHandFor_81 (by decide) ?_
                exact ih (x2 + (1 : Int32)) σ13 _ _ ls hq h (lv_sub hl [2, 3, 0] rfl)
  subst hargs
  refine hh_entry (vs := [.ref (ad 0), .int x1]) (Nat.le_of_ble_eq_true rfl) (fun ls hl => ?_)
  have hl : lv_has ls 4 [(0, .ref (ad 0)), (1, .int x1)] := hl
  have hq : wp_X8_seekHandFor x1 σ Q := hq
  unfold wp_X8_seekHandFor at hq
  refine lv_iconst (v := (0 : Int32)) hx hb1 dX8_seekHandFor_0 (by decide) ?_
  refine lv_istore_n (lv' := [(2, .int (0 : Int32)), (0, .ref (ad 0)), (1, .int x1)]) hx hb1 dX8_seekHandFor_1 rfl hl (by decide) rfl (fun ls hl => ?_)
  obtain ⟨n14, hq⟩ := hq
  exact lt_2 x1 n14 (0 : Int32) σ _ _ ls hq h (lv_sub hl [1, 2, 0] rfl)
