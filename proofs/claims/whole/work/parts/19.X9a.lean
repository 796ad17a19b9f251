theorem nd_X9_in : yX9_in.cls ≠ "java/lang/invoke/MethodHandle" ∧ yX9_in.cls ≠ "java/lang/invoke/VarHandle" ∧ (parseMethodDescriptor yX9_in.desc).map (fun d => d.parameters.length) = some 3 := by decide +kernel
abbrev rm_X9_in : Room := { frames := 0, cells := 0, slots := 0, locals := 0 }
def wp_X9_in (x0 : Int32) (x1 : Int32) (x2 : Int32) (σ : hh_S) (Q : Int32 → hh_S → Prop) : Prop := ((x0 < x1 → (Q (0 : Int32) σ)) ∧ (¬ x0 < x1 → ((x2 < x0 → (Q (0 : Int32) σ)) ∧ (¬ x2 < x0 → (Q (1 : Int32) σ)))))
set_option maxHeartbeats 4000000 in
set_option maxRecDepth 100000 in
theorem ad_X9_in {D : va_G} (l : Launch) {cy : Nat → ClassId} {ad : Nat → Nat} (J : hh_J hm_Y ad) (x0 : Int32) (x1 : Int32) (x2 : Int32) (σ : hh_S) (Q : Int32 → hh_S → Prop) (hq : wp_X9_in x0 x1 x2 σ Q) : Met l yX9_in wsX9_in rm_X9_in (va_Pc [.int x0, .int x1, .int x2] (hh_B D hh_cl hm_Y cy ad σ)) (va_Qi Q (hh_B D hh_cl hm_Y cy ad) (hh_A hm_Y ad)) 0 0 (hh_A hm_Y ad) := by
  refine Met.ofW (cc := cX9_in) (maxL := 3) (ret := (some .boolean)) (by decide) rfl ?_
  intro p e s m args below meth c s₁ B hml hv
  obtain ⟨hargs, hP0, hK0⟩ := hv
  have hr := B.returns
  have hlocks := B.notSynchronized
  have X : hh_X p m c cX9_in 3 s args wsX9_in RX9 D hh_cl hm_Y cy ad := ⟨⟨B.exec, B.bytes, hml, findClass_of_methodNamed B.named, atoms_spec (ws := wsX9_in) B.pre⟩, hK0, J⟩
  have hx := X.1.1
  have hb1 := X.1.2.1
  have h : hh_H D hh_cl hm_Y cy ad s.heap σ s.heap [] := ⟨hP0, va_S.rf⟩
  subst hargs
  refine hh_entry (vs := [.int x0, .int x1, .int x2]) (Nat.le_of_ble_eq_true rfl) (fun ls hl => ?_)
  have hl : lv_has ls 3 [(0, .int x0), (1, .int x1), (2, .int x2)] := hl
  have hq : wp_X9_in x0 x1 x2 σ Q := hq
  unfold wp_X9_in at hq
  refine lv_iload_n hx hb1 dX9_in_0 rfl (lv_at hl 0 rfl) ?_
  refine lv_iload_n hx hb1 dX9_in_1 rfl (lv_at hl 1 rfl) ?_
  refine lv_icmp_lt (tgt := 14) hx hb1 dX9_in_2 (by decide) (fun c1 => ?_) (fun c1 => ?_)
  · have hq := hq.1 c1
    refine lv_iconst (v := (0 : Int32)) hx hb1 dX9_in_14 (by decide) ?_
    exact hh_zret X h hr hlocks rfl hq dX9_in_15
  · have hq := hq.2 c1
    refine lv_iload_n hx hb1 dX9_in_5 rfl (lv_at hl 0 rfl) ?_
    refine lv_iload_n hx hb1 dX9_in_6 rfl (lv_at hl 2 rfl) ?_
    refine lv_icmp_gt (tgt := 14) hx hb1 dX9_in_7 (by decide) (fun c2 => ?_) (fun c2 => ?_)
    · have hq := hq.1 c2
      refine lv_iconst (v := (0 : Int32)) hx hb1 dX9_in_14 (by decide) ?_
      exact hh_zret X h hr hlocks rfl hq dX9_in_15
    · have hq := hq.2 c2
      refine lv_iconst (v := (1 : Int32)) hx hb1 dX9_in_10 (by decide) ?_
      refine lv_goto (tgt := 15) hx hb1 dX9_in_11 (by decide) ?_
      exact hh_zret X h hr hlocks rfl hq dX9_in_15
theorem nd_X9_say : yX9_say.cls = RX9 ∧ yX9_say.cls ≠ "java/lang/invoke/MethodHandle" ∧ yX9_say.cls ≠ "java/lang/invoke/VarHandle" ∧ (parseMethodDescriptor yX9_say.desc).map (fun d => d.parameters.length) = some 1 := by decide +kernel
abbrev rm_X9_say : Room := { frames := 1, cells := 0, slots := 0, locals := 22 }
def wp_X9_say (x1 : Int32) (σ : hh_S) (Q : Int32 → hh_S → Prop) : Prop := (wp_X9_in x1 (33 : Int32) (126 : Int32) σ (fun (r1 : Int32) (σ2 : hh_S) => ((¬ r1 = 0 → ((¬ (hh_I σ2 0) = (60 : Int32) → (vp_in (hh_I σ2 0) 60 ∧ ∀ σ6 : hh_S, σ6 = hh_sA σ2 1 (hh_I σ2 0) x1 → (∀ σ7 : hh_S, σ7 = hh_uI σ6 0 ((hh_I σ6 0) + (1 : Int32)) → (Q (hh_I σ7 0) σ7)))) ∧ ((hh_I σ2 0) = (60 : Int32) → (Q (-4 : Int32) σ2)))) ∧ (r1 = 0 → (Q (-2 : Int32) σ2)))))
theorem in_X9_say_X9 : ∀ w ∈ u_ws RX9 TX9 37, w ∈ wsX9_say := fun w h => List.mem_cons_of_mem _ (List.mem_append_right _ h)
set_option maxHeartbeats 4000000 in
set_option maxRecDepth 100000 in
theorem ad_X9_say {D : va_G} (l : Launch) {cy : Nat → ClassId} {ad : Nat → Nat} (J : hh_J hm_Y ad) (x1 : Int32) (σ : hh_S) (Q : Int32 → hh_S → Prop) (hq : wp_X9_say x1 σ Q) : Met l yX9_say wsX9_say rm_X9_say (va_Pc [.ref (ad 0), .int x1] (hh_B D hh_cl hm_Y cy ad σ)) (va_Qi Q (hh_B D hh_cl hm_Y cy ad) (hh_A hm_Y ad)) 0 0 (hh_A hm_Y ad) := by
  refine Met.ofW (cc := cX9_say) (maxL := 2) (ret := (some .int)) (by decide) rfl ?_
  intro p e s m args below meth c s₁ B hml hv
  obtain ⟨hargs, hP0, hK0⟩ := hv
  have hr := B.returns
  have hlocks := B.notSynchronized
  have X : hh_X p m c cX9_say 2 s args wsX9_say RX9 D hh_cl hm_Y cy ad := ⟨⟨B.exec, B.bytes, hml, findClass_of_methodNamed B.named, atoms_spec (ws := wsX9_say) B.pre⟩, hK0, J⟩
  have hx := X.1.1
  have hb1 := X.1.2.1
  have h : hh_H D hh_cl hm_Y cy ad s.heap σ s.heap [] := ⟨hP0, va_S.rf⟩
  subst hargs
  refine hh_entry (vs := [.ref (ad 0), .int x1]) (Nat.le_of_ble_eq_true rfl) (fun ls hl => ?_)
  have hl : lv_has ls 2 [(0, .ref (ad 0)), (1, .int x1)] := hl
  have hq : wp_X9_say x1 σ Q := hq
  unfold wp_X9_say at hq
  refine lv_iload_n hx hb1 dX9_say_0 rfl (lv_at hl 1 rfl) ?_
  refine lv_bipush (v := (33 : Int32)) hx hb1 dX9_say_1 (by decide) ?_
  refine lv_bipush (v := (126 : Int32)) hx hb1 dX9_say_3 (by decide) ?_
  refine hh_kI h (va_runS (As := [.int x1, .int (33 : Int32), .int (126 : Int32)]) (rest := []) X.1 (ad_X9_in (D := D) l J x1 (33 : Int32) (126 : Int32) σ _ hq) (va_cwS 3 X.1.2.2.2.2 gX9_say_X9_in rfl rfl rfl nd_X9_in ⟨Nat.le_of_ble_eq_true rfl, Nat.le_of_ble_eq_true rfl⟩) (hh_preS X h [.int x1, .int (33 : Int32), .int (126 : Int32)]) rfl rfl hl.1 rfl (lv_room (Nat.le_of_ble_eq_true rfl)) dX9_say_5 ⟨Nat.le_of_ble_eq_true rfl, Nat.le_of_ble_eq_true rfl⟩) (fun r1 σ2 H locs hq h => ?_)
  refine lv_if_ne (tgt := 14) hx hb1 dX9_say_8 (by decide) (fun c3 => ?_) (fun c3 => ?_)
  · have hq := hq.1 c3
    refine lv_aload_n hx hb1 dX9_say_14 rfl (lv_at hl 0 rfl) ?_
    refine hh_geti X h (q := 0) fm_0_0 rfl in_X9_say_X9 km_0 (by decide) (List.mem_of_getElem? (i := 1) rfl) rfl dX9_say_15 ?_
    refine lv_bipush (v := (60 : Int32)) hx hb1 dX9_say_18 (by decide) ?_
    refine lv_icmp_ne (tgt := 26) hx hb1 dX9_say_20 (by decide) (fun c4 => ?_) (fun c4 => ?_)
    · have hq := hq.1 c4
      refine lv_aload_n hx hb1 dX9_say_26 rfl (lv_at hl 0 rfl) ?_
      refine hh_getr X h fm_0_1 in_X9_say_X9 km_0 (by decide) (List.mem_of_getElem? (i := 2) rfl) rfl dX9_say_27 ?_
      refine lv_aload_n hx hb1 dX9_say_30 rfl (lv_at hl 0 rfl) ?_
      refine hh_geti X h (q := 0) fm_0_0 rfl in_X9_say_X9 km_0 (by decide) (List.mem_of_getElem? (i := 1) rfl) rfl dX9_say_31 ?_
      refine lv_iload_n hx hb1 dX9_say_34 rfl (lv_at hl 1 rfl) ?_
      obtain ⟨h5, hq⟩ := hq
      refine hh_ist X h am_1 h5 dX9_say_35 (fun σ6 H locs eσ6 h => ?_)
      have hq := hq σ6 eσ6
      refine lv_aload_n hx hb1 dX9_say_36 rfl (lv_at hl 0 rfl) ?_
      refine lv_dup hx hb1 dX9_say_37 rfl ?_
      refine hh_geti X h (q := 0) fm_0_0 rfl in_X9_say_X9 km_0 (by decide) (List.mem_of_getElem? (i := 1) rfl) rfl dX9_say_38 ?_
      refine lv_iconst (v := (1 : Int32)) hx hb1 dX9_say_41 (by decide) ?_
      refine lv_iadd hx hb1 dX9_say_42 ?_
      refine hh_puti X h (q := 0) hm_n fm_0_0 rfl in_X9_say_X9 km_0 tyX9 tyX9_ok nmX9 (by decide) (List.mem_of_getElem? (i := 1) rfl) rfl rfl rfl rfl dX9_say_43 (fun σ7 H locs eσ7 h => ?_)
      have hq := hq σ7 eσ7
      refine lv_aload_n hx hb1 dX9_say_46 rfl (lv_at hl 0 rfl) ?_
      refine hh_geti X h (q := 0) fm_0_0 rfl in_X9_say_X9 km_0 (by decide) (List.mem_of_getElem? (i := 1) rfl) rfl dX9_say_47 ?_
      exact hh_iret X h hr hlocks hq dX9_say_50
    · have hq := hq.2 c4
      refine lv_bipush (v := (-4 : Int32)) hx hb1 dX9_say_23 (by decide) ?_
      exact hh_iret X h hr hlocks hq dX9_say_25
  · have hq := hq.2 c3
    refine lv_bipush (v := (-2 : Int32)) hx hb1 dX9_say_11 (by decide) ?_
    exact hh_iret X h hr hlocks hq dX9_say_13
theorem nd_X9_wipe : yX9_wipe.cls = RX9 ∧ yX9_wipe.cls ≠ "java/lang/invoke/MethodHandle" ∧ yX9_wipe.cls ≠ "java/lang/invoke/VarHandle" ∧ (parseMethodDescriptor yX9_wipe.desc).map (fun d => d.parameters.length) = some 0 := by decide +kernel
abbrev rm_X9_wipe : Room := { frames := 0, cells := 0, slots := 0, locals := 0 }
def wp_X9_wipe (σ : hh_S) (Q : Int32 → hh_S → Prop) : Prop := (∀ v1 : Int32, v1 = (hh_I σ 0) → (∀ σ2 : hh_S, σ2 = hh_uI σ 0 (0 : Int32) → (Q v1 σ2)))
theorem in_X9_wipe_X9 : ∀ w ∈ u_ws RX9 TX9 37, w ∈ wsX9_wipe := fun w h => List.mem_cons_of_mem _ (List.mem_append_right _ h)
set_option maxHeartbeats 4000000 in
set_option maxRecDepth 100000 in
theorem ad_X9_wipe {D : va_G} (l : Launch) {cy : Nat → ClassId} {ad : Nat → Nat} (J : hh_J hm_Y ad) (σ : hh_S) (Q : Int32 → hh_S → Prop) (hq : wp_X9_wipe σ Q) : Met l yX9_wipe wsX9_wipe rm_X9_wipe (va_Pc [.ref (ad 0)] (hh_B D hh_cl hm_Y cy ad σ)) (va_Qi Q (hh_B D hh_cl hm_Y cy ad) (hh_A hm_Y ad)) 0 0 (hh_A hm_Y ad) := by
  refine Met.ofW (cc := cX9_wipe) (maxL := 2) (ret := (some .int)) (by decide) rfl ?_
  intro p e s m args below meth c s₁ B hml hv
  obtain ⟨hargs, hP0, hK0⟩ := hv
  have hr := B.returns
  have hlocks := B.notSynchronized
  have X : hh_X p m c cX9_wipe 2 s args wsX9_wipe RX9 D hh_cl hm_Y cy ad := ⟨⟨B.exec, B.bytes, hml, findClass_of_methodNamed B.named, atoms_spec (ws := wsX9_wipe) B.pre⟩, hK0, J⟩
  have hx := X.1.1
  have hb1 := X.1.2.1
  have h : hh_H D hh_cl hm_Y cy ad s.heap σ s.heap [] := ⟨hP0, va_S.rf⟩
  subst hargs
  refine hh_entry (vs := [.ref (ad 0)]) (Nat.le_of_ble_eq_true rfl) (fun ls hl => ?_)
  have hl : lv_has ls 2 [(0, .ref (ad 0))] := hl
  have hq : wp_X9_wipe σ Q := hq
  unfold wp_X9_wipe at hq
  refine lv_aload_n hx hb1 dX9_wipe_0 rfl (lv_at hl 0 rfl) ?_
  refine hh_geti X h (q := 0) fm_0_0 rfl in_X9_wipe_X9 km_0 (by decide) (List.mem_of_getElem? (i := 1) rfl) rfl dX9_wipe_1 ?_
  refine lv_topi (fun v1 ev1 => ?_)
  have hq := hq v1 ev1
  refine lv_istore_n (lv' := [(1, .int v1), (0, .ref (ad 0))]) hx hb1 dX9_wipe_4 rfl hl (by decide) rfl (fun ls hl => ?_)
  refine lv_aload_n hx hb1 dX9_wipe_5 rfl (lv_at hl 1 rfl) ?_
  refine lv_iconst (v := (0 : Int32)) hx hb1 dX9_wipe_6 (by decide) ?_
  refine hh_puti X h (q := 0) hm_n fm_0_0 rfl in_X9_wipe_X9 km_0 tyX9 tyX9_ok nmX9 (by decide) (List.mem_of_getElem? (i := 1) rfl) rfl rfl rfl rfl dX9_wipe_7 (fun σ2 H locs eσ2 h => ?_)
  have hq := hq σ2 eσ2
  refine lv_iload_n hx hb1 dX9_wipe_10 rfl (lv_at hl 0 rfl) ?_
  exact hh_iret X h hr hlocks hq dX9_wipe_11
theorem nd_X9_named : yX9_named.cls = RX9 ∧ yX9_named.cls ≠ "java/lang/invoke/MethodHandle" ∧ yX9_named.cls ≠ "java/lang/invoke/VarHandle" ∧ (parseMethodDescriptor yX9_named.desc).map (fun d => d.parameters.length) = some 2 := by decide +kernel
abbrev rm_X9_named : Room := { frames := 0, cells := 0, slots := 0, locals := 0 }
def wq_X9_named_2 (x1 : Int32) (x2 : Int32) (Q : Int32 → hh_S → Prop) (K2 : Int32 → hh_S → Prop) (x3 : Int32) (σ : hh_S) : Prop := ((x2 ≤ x3 → (Q (-6 : Int32) σ)) ∧ (¬ x2 ≤ x3 → (vp_in x3 8 ∧ ((¬ (hh_rA σ 21 x3) = x1 → (K2 (x3 + (1 : Int32)) σ)) ∧ ((hh_rA σ 21 x3) = x1 → (Q x3 σ))))))
def wp_X9_named (x1 : Int32) (x2 : Int32) (σ : hh_S) (Q : Int32 → hh_S → Prop) : Prop := (∃ n : Nat, hh_lp1 (wq_X9_named_2 x1 x2 Q) n (0 : Int32) σ)
theorem in_X9_named_X9 : ∀ w ∈ u_ws RX9 TX9 37, w ∈ wsX9_named := fun w h => List.mem_cons_of_mem _ (List.mem_append_right _ h)
set_option maxHeartbeats 4000000 in
set_option maxRecDepth 100000 in
theorem ad_X9_named {D : va_G} (l : Launch) {cy : Nat → ClassId} {ad : Nat → Nat} (J : hh_J hm_Y ad) (x1 : Int32) (x2 : Int32) (σ : hh_S) (Q : Int32 → hh_S → Prop) (hq : wp_X9_named x1 x2 σ Q) : Met l yX9_named wsX9_named rm_X9_named (va_Pc [.ref (ad 0), .int x1, .int x2] (hh_B D hh_cl hm_Y cy ad σ)) (va_Qi Q (hh_B D hh_cl hm_Y cy ad) (hh_A hm_Y ad)) 0 0 (hh_A hm_Y ad) := by
  refine Met.ofW (cc := cX9_named) (maxL := 4) (ret := (some .int)) (by decide) rfl ?_
  intro p e s m args below meth c s₁ B hml hv
  obtain ⟨hargs, hP0, hK0⟩ := hv
  have hr := B.returns
  have hlocks := B.notSynchronized
  have X : hh_X p m c cX9_named 4 s args wsX9_named RX9 D hh_cl hm_Y cy ad := ⟨⟨B.exec, B.bytes, hml, findClass_of_methodNamed B.named, atoms_spec (ws := wsX9_named) B.pre⟩, hK0, J⟩
  have hx := X.1.1
  have hb1 := X.1.2.1
  have h : hh_H D hh_cl hm_Y cy ad s.heap σ s.heap [] := ⟨hP0, va_S.rf⟩
  have lt_2 : ∀ (x1 : Int32) (x2 : Int32) (n : Nat) (x3 : Int32) (σ : hh_S) (H : Heap) (locs : List Loc) (ls : Array Slot), hh_lp1 (wq_X9_named_2 x1 x2 Q) n x3 σ → hh_H D hh_cl hm_Y cy ad s.heap σ H locs → lv_has ls 4 [(0, .ref (ad 0)), (1, .int x1), (2, .int x2), (3, .int x3)] → W p l e (headSpec wsX9_named rm_X9_named).room s m args below meth c H locs 0 0 (MQ below (va_Qi Q (hh_B D hh_cl hm_Y cy ad) (hh_A hm_Y ad)) args s 0 0 (hh_A hm_Y ad)) (F0 m 2 ls []) := by
    intro x1 x2 n
    induction n with
    | zero => intro x3 σ H locs ls hq h hl; exact hq.elim
    | succ n ih =>
      intro x3 σ H locs ls hq h hl
      have hq : wq_X9_named_2 x1 x2 Q (hh_lp1 (wq_X9_named_2 x1 x2 Q) n) x3 σ := hq
      unfold wq_X9_named_2 at hq
      refine lv_iload_n hx hb1 dX9_named_2 rfl (lv_at hl 3 rfl) ?_
      refine lv_iload_n hx hb1 dX9_named_3 rfl (lv_at hl 2 rfl) ?_
      refine lv_icmp_ge (tgt := 25) hx hb1 dX9_named_4 (by decide) (fun c1 => ?_) (fun c1 => ?_)
      · have hq := hq.1 c1
        refine lv_bipush (v := (-6 : Int32)) hx hb1 dX9_named_25 (by decide) ?_
        exact hh_iret X h hr hlocks hq dX9_named_27
      · have hq := hq.2 c1
        refine lv_aload_n hx hb1 dX9_named_7 rfl (lv_at hl 0 rfl) ?_
        refine hh_getr X h fm_0_28 in_X9_named_X9 km_0 (by decide) (List.mem_of_getElem? (i := 1) rfl) rfl dX9_named_8 ?_
        refine lv_iload_n hx hb1 dX9_named_11 rfl (lv_at hl 3 rfl) ?_
        obtain ⟨h2, hq⟩ := hq
        refine hh_ild X h am_21 h2 dX9_named_12 ?_
        refine lv_iload_n hx hb1 dX9_named_13 rfl (lv_at hl 1 rfl) ?_
        refine lv_icmp_ne (tgt := 19) hx hb1 dX9_named_14 (by decide) (fun c3 => ?_) (fun c3 => ?_)
        · have hq := hq.1 c3
          refine lv_iinc (v := (x3 + (1 : Int32))) (lv' := [(3, .int (x3 + (1 : Int32))), (0, .ref (ad 0)), (1, .int x1), (2, .int x2)]) hx hb1 dX9_named_19 hl (k := 3) rfl rfl (by decide) rfl (fun ls hl => ?_)
          refine lv_goto (tgt := 2) hx hb1 dX9_named_22 (by decide) ?_
          exact ih (x3 + (1 : Int32)) σ _ _ ls hq h (lv_sub hl [1, 2, 3, 0] rfl)
        · have hq := hq.2 c3
          refine lv_iload_n hx hb1 dX9_named_17 rfl (lv_at hl 3 rfl) ?_
          exact hh_iret X h hr hlocks hq dX9_named_18
  subst hargs
  refine hh_entry (vs := [.ref (ad 0), .int x1, .int x2]) (Nat.le_of_ble_eq_true rfl) (fun ls hl => ?_)
  have hl : lv_has ls 4 [(0, .ref (ad 0)), (1, .int x1), (2, .int x2)] := hl
  have hq : wp_X9_named x1 x2 σ Q := hq
  unfold wp_X9_named at hq
  refine lv_iconst (v := (0 : Int32)) hx hb1 dX9_named_0 (by decide) ?_
  refine lv_istore_n (lv' := [(3, .int (0 : Int32)), (0, .ref (ad 0)), (1, .int x1), (2, .int x2)]) hx hb1 dX9_named_1 rfl hl (by decide) rfl (fun ls hl => ?_)
  obtain ⟨n4, hq⟩ := hq
  exact lt_2 x1 x2 n4 (0 : Int32) σ _ _ ls hq h (lv_sub hl [1, 2, 3, 0] rfl)
theorem nd_X9_faultOf : yX9_faultOf.cls = RX9 ∧ yX9_faultOf.cls ≠ "java/lang/invoke/MethodHandle" ∧ yX9_faultOf.cls ≠ "java/lang/invoke/VarHandle" ∧ (parseMethodDescriptor yX9_faultOf.desc).map (fun d => d.parameters.length) = some 0 := by decide +kernel
abbrev rm_X9_faultOf : Room := { frames := 1, cells := 0, slots := 0, locals := 23 }
def wq_X9_faultOf_439 (K11 : Int32 → Int32 → Int32 → hh_S → Prop) (x2 : Int32) (x3 : Int32) (x6 : Int32) (Q : Int32 → hh_S → Prop) (σ : hh_S) : Prop := ((0 ≤ x6 → (K11 x6 x2 (x3 + (1 : Int32)) σ)) ∧ (¬ 0 ≤ x6 → (Q x3 σ)))
def wq_X9_faultOf_401 (K11 : Int32 → Int32 → Int32 → hh_S → Prop) (x1 : Int32) (x2 : Int32) (x3 : Int32) (x4 : Int32) (x5 : Int32) (x6 : Int32) (Q : Int32 → hh_S → Prop) (σ : hh_S) : Prop := (wp_X9_in x1 (8 : Int32) (10 : Int32) σ (fun (r2 : Int32) (σ3 : hh_S) => ((r2 = 0 → (wq_X9_faultOf_439 K11 x2 x3 x6 Q σ3)) ∧ (¬ r2 = 0 → ((¬ x4 = (59 : Int32) → (wq_X9_faultOf_439 K11 x2 x3 x6 Q σ3)) ∧ (x4 = (59 : Int32) → (((7 : Int32) ≤ x5 → (wq_X9_faultOf_439 K11 x2 x3 x6 Q σ3)) ∧ (¬ (7 : Int32) ≤ x5 → (∀ σ7 : hh_S, σ7 = hh_uI σ3 27 ((hh_I σ3 27) + (1 : Int32)) → (wq_X9_faultOf_439 K11 x2 x3 (0 : Int32) Q σ7))))))))))
def wq_X9_faultOf_344 (K11 : Int32 → Int32 → Int32 → hh_S → Prop) (x1 : Int32) (x2 : Int32) (x3 : Int32) (x4 : Int32) (x5 : Int32) (x6 : Int32) (Q : Int32 → hh_S → Prop) (σ : hh_S) : Prop := (wp_X9_in x1 (7 : Int32) (10 : Int32) σ (fun (r8 : Int32) (σ9 : hh_S) => ((r8 = 0 → (wq_X9_faultOf_401 K11 x1 x2 x3 x4 x5 x6 Q σ9)) ∧ (¬ r8 = 0 → (wp_X9_in x4 (48 : Int32) (57 : Int32) σ9 (fun (r11 : Int32) (σ12 : hh_S) => ((r11 = 0 → (wq_X9_faultOf_401 K11 x1 x2 x3 x4 x5 x6 Q σ12)) ∧ (¬ r11 = 0 → (((10 : Int32) ≤ x1 → (wq_X9_faultOf_401 K11 x1 x2 x3 x4 x5 x6 Q σ12)) ∧ (¬ (10 : Int32) ≤ x1 → (vp_in x5 8 ∧ (vp_in x5 8 ∧ ∀ σ17 : hh_S, σ17 = hh_sA σ12 24 x5 ((((10 : Int32) * (hh_rA σ12 24 x5)) + x4) - (48 : Int32)) → (∀ v18 : Int32, v18 = (x1 + (1 : Int32)) → (wq_X9_faultOf_401 K11 x1 x2 x3 x4 x5 v18 Q σ17))))))))))))))
def wq_X9_faultOf_276 (K11 : Int32 → Int32 → Int32 → hh_S → Prop) (x1 : Int32) (x2 : Int32) (x3 : Int32) (x4 : Int32) (x5 : Int32) (x6 : Int32) (Q : Int32 → hh_S → Prop) (σ : hh_S) : Prop := (wp_X9_in x4 (97 : Int32) (104 : Int32) σ (fun (r19 : Int32) (σ20 : hh_S) => ((r19 = 0 → (wq_X9_faultOf_344 K11 x1 x2 x3 x4 x5 x6 Q σ20)) ∧ (¬ r19 = 0 → (((x4 - (97 : Int32)) ≤ x2 → (wq_X9_faultOf_344 K11 x1 x2 x3 x4 x5 x6 Q σ20)) ∧ (¬ (x4 - (97 : Int32)) ≤ x2 → (wp_X9_named (x4 - (97 : Int32)) x5 σ20 (fun (r23 : Int32) (σ24 : hh_S) => ((r23 < 0 → (wq_X9_faultOf_344 K11 x1 x2 x3 x4 x5 x6 Q σ24)) ∧ (¬ r23 < 0 → (vp_in x5 8 ∧ (wp_X9_named (x4 - (97 : Int32)) x5 σ24 (fun (r27 : Int32) (σ28 : hh_S) => (vp_in x5 8 ∧ ∀ σ30 : hh_S, σ30 = hh_sA σ28 23 x5 ((hh_rA σ24 23 x5) ||| ((1 : Int32) <<< (r27 &&& 31))) → (∀ v31 : Int32, v31 = (x4 - (97 : Int32)) → (wq_X9_faultOf_344 K11 x1 v31 x3 x4 x5 (6 : Int32) Q σ30))))))))))))))))
def wq_X9_faultOf_260 (K11 : Int32 → Int32 → Int32 → hh_S → Prop) (x1 : Int32) (x2 : Int32) (x3 : Int32) (x4 : Int32) (x5 : Int32) (x6 : Int32) (Q : Int32 → hh_S → Prop) (σ : hh_S) : Prop := ((0 ≤ x6 → (wq_X9_faultOf_344 K11 x1 x2 x3 x4 x5 x6 Q σ)) ∧ (¬ 0 ≤ x6 → ((x1 = (5 : Int32) → (wq_X9_faultOf_276 K11 x1 x2 x3 x4 x5 x6 Q σ)) ∧ (¬ x1 = (5 : Int32) → ((¬ x1 = (6 : Int32) → (wq_X9_faultOf_344 K11 x1 x2 x3 x4 x5 x6 Q σ)) ∧ (x1 = (6 : Int32) → (wq_X9_faultOf_276 K11 x1 x2 x3 x4 x5 x6 Q σ)))))))
def wq_X9_faultOf_216 (K11 : Int32 → Int32 → Int32 → hh_S → Prop) (x1 : Int32) (x2 : Int32) (x3 : Int32) (x4 : Int32) (x5 : Int32) (x6 : Int32) (Q : Int32 → hh_S → Prop) (σ : hh_S) : Prop := ((¬ x4 = (33 : Int32) → ((¬ x1 = (4 : Int32) → (wq_X9_faultOf_260 K11 x1 x2 x3 x4 x5 x6 Q σ)) ∧ (x1 = (4 : Int32) → ((¬ x4 = (60 : Int32) → (wq_X9_faultOf_260 K11 x1 x2 x3 x4 x5 x6 Q σ)) ∧ (x4 = (60 : Int32) → ((x5 ≤ 0 → (wq_X9_faultOf_260 K11 x1 x2 x3 x4 x5 x6 Q σ)) ∧ (¬ x5 ≤ 0 → (wq_X9_faultOf_260 K11 x1 (-1 : Int32) x3 x4 x5 (5 : Int32) Q σ)))))))) ∧ (x4 = (33 : Int32) → (vp_in x5 8 ∧ ∀ σ40 : hh_S, σ40 = hh_sA σ 24 x5 (0 : Int32) → (wq_X9_faultOf_260 K11 x1 x2 x3 x4 x5 (7 : Int32) Q σ40))))
def wq_X9_faultOf_11 (Q : Int32 → hh_S → Prop) (K11 : Int32 → Int32 → Int32 → hh_S → Prop) (x1 : Int32) (x2 : Int32) (x3 : Int32) (σ : hh_S) : Prop := (((hh_I σ 0) ≤ x3 → (∀ σ42 : hh_S, σ42 = hh_uI σ 27 ((hh_I σ 27) + (1 : Int32)) → (wp_X9_in x1 (8 : Int32) (10 : Int32) σ42 (fun (r43 : Int32) (σ44 : hh_S) => ((r43 = 0 → (Q (hh_I σ44 0) σ44)) ∧ (¬ r43 = 0 → (Q (-6 : Int32) σ44))))))) ∧ (¬ (hh_I σ 0) ≤ x3 → (vp_in x3 60 ∧ (∀ v47 : Int32, v47 = (hh_rA σ 1 x3) → (∀ v48 : Int32, v48 = (hh_I σ 27) → ((¬ x1 = 0 → ((¬ x1 = (1 : Int32) → ((¬ x1 = (2 : Int32) → ((¬ x1 = (3 : Int32) → ((x1 = (4 : Int32) → (wq_X9_faultOf_216 K11 x1 x2 x3 v47 v48 (-6 : Int32) Q σ)) ∧ (¬ x1 = (4 : Int32) → ((¬ x1 = (6 : Int32) → (wq_X9_faultOf_260 K11 x1 x2 x3 v47 v48 (-6 : Int32) Q σ)) ∧ (x1 = (6 : Int32) → (wq_X9_faultOf_216 K11 x1 x2 x3 v47 v48 (-6 : Int32) Q σ)))))) ∧ (x1 = (3 : Int32) → (wp_X9_in v47 (50 : Int32) (52 : Int32) σ (fun (r55 : Int32) (σ56 : hh_S) => ((r55 = 0 → (vp_in v48 8 ∧ ∀ σ59 : hh_S, σ59 = hh_sA σ56 22 v48 (v47 - (48 : Int32)) → (wq_X9_faultOf_260 K11 x1 x2 x3 v47 v48 (-6 : Int32) Q σ59))) ∧ (¬ r55 = 0 → (vp_in v48 8 ∧ ∀ σ61 : hh_S, σ61 = hh_sA σ56 22 v48 (v47 - (48 : Int32)) → (wq_X9_faultOf_260 K11 x1 x2 x3 v47 v48 (4 : Int32) Q σ61))))))))) ∧ (x1 = (2 : Int32) → ((¬ v47 = (67 : Int32) → ((v47 = (75 : Int32) → (vp_in v48 8 ∧ ∀ σ65 : hh_S, σ65 = hh_sA σ 22 v48 (2 : Int32) → (wq_X9_faultOf_260 K11 x1 x2 x3 v47 v48 (4 : Int32) Q σ65))) ∧ (¬ v47 = (75 : Int32) → ((¬ v47 = (79 : Int32) → (vp_in v48 8 ∧ ∀ σ68 : hh_S, σ68 = hh_sA σ 22 v48 (2 : Int32) → (wq_X9_faultOf_260 K11 x1 x2 x3 v47 v48 (-6 : Int32) Q σ68))) ∧ (v47 = (79 : Int32) → (vp_in v48 8 ∧ ∀ σ70 : hh_S, σ70 = hh_sA σ 22 v48 (2 : Int32) → (wq_X9_faultOf_260 K11 x1 x2 x3 v47 v48 (4 : Int32) Q σ70))))))) ∧ (v47 = (67 : Int32) → (vp_in v48 8 ∧ ∀ σ72 : hh_S, σ72 = hh_sA σ 22 v48 (2 : Int32) → (wq_X9_faultOf_260 K11 x1 x2 x3 v47 v48 (3 : Int32) Q σ72))))))) ∧ (x1 = (1 : Int32) → ((¬ v47 = (58 : Int32) → (wq_X9_faultOf_260 K11 x1 x2 x3 v47 v48 (-6 : Int32) Q σ)) ∧ (v47 = (58 : Int32) → (wq_X9_faultOf_260 K11 x1 x2 x3 v47 v48 (2 : Int32) Q σ)))))) ∧ (x1 = 0 → (wp_X9_in v47 (97 : Int32) (104 : Int32) σ (fun (r74 : Int32) (σ75 : hh_S) => ((r74 = 0 → (wq_X9_faultOf_260 K11 x1 x2 x3 v47 v48 (-6 : Int32) Q σ75)) ∧ (¬ r74 = 0 → (wp_X9_named (v47 - (97 : Int32)) v48 σ75 (fun (r77 : Int32) (σ78 : hh_S) => ((0 ≤ r77 → (wq_X9_faultOf_260 K11 x1 x2 x3 v47 v48 (-6 : Int32) Q σ78)) ∧ (¬ 0 ≤ r77 → (vp_in v48 8 ∧ ∀ σ81 : hh_S, σ81 = hh_sA σ78 21 v48 (v47 - (97 : Int32)) → (vp_in v48 8 ∧ ∀ σ83 : hh_S, σ83 = hh_sA σ81 23 v48 (0 : Int32) → (wq_X9_faultOf_260 K11 x1 x2 x3 v47 v48 (1 : Int32) Q σ83))))))))))))))))))
def wp_X9_faultOf (σ : hh_S) (Q : Int32 → hh_S → Prop) : Prop := (∀ σ84 : hh_S, σ84 = hh_uI σ 27 (0 : Int32) → (∃ n : Nat, hh_lp3 (wq_X9_faultOf_11 Q) n (0 : Int32) (-1 : Int32) (0 : Int32) σ84))
theorem in_X9_faultOf_X9 : ∀ w ∈ u_ws RX9 TX9 37, w ∈ wsX9_faultOf := fun w h => List.mem_cons_of_mem _ (List.mem_append_right _ h)
set_option maxHeartbeats 4000000 in
set_option maxRecDepth 100000 in
theorem ad_X9_faultOf {D : va_G} (l : Launch) {cy : Nat → ClassId} {ad : Nat → Nat} (J : hh_J hm_Y ad) (σ : hh_S) (Q : Int32 → hh_S → Prop) (hq : wp_X9_faultOf σ Q) : Met l yX9_faultOf wsX9_faultOf rm_X9_faultOf (va_Pc [.ref (ad 0)] (hh_B D hh_cl hm_Y cy ad σ)) (va_Qi Q (hh_B D hh_cl hm_Y cy ad) (hh_A hm_Y ad)) 0 0 (hh_A hm_Y ad) := by
  refine Met.ofW (cc := cX9_faultOf) (maxL := 7) (ret := (some .int)) (by decide) rfl ?_
  intro p e s m args below meth c s₁ B hml hv
  obtain ⟨hargs, hP0, hK0⟩ := hv
  have hr := B.returns
  have hlocks := B.notSynchronized
  have X : hh_X p m c cX9_faultOf 7 s args wsX9_faultOf RX9 D hh_cl hm_Y cy ad := ⟨⟨B.exec, B.bytes, hml, findClass_of_methodNamed B.named, atoms_spec (ws := wsX9_faultOf) B.pre⟩, hK0, J⟩
  have hx := X.1.1
  have hb1 := X.1.2.1
  have h : hh_H D hh_cl hm_Y cy ad s.heap σ s.heap [] := ⟨hP0, va_S.rf⟩
  have jt_439 : ∀ (x2 : Int32) (x3 : Int32) (x6 : Int32) (K11 : Int32 → Int32 → Int32 → hh_S → Prop) (hK11 : ∀ (x1 : Int32) (x2 : Int32) (x3 : Int32) (σ : hh_S) (H : Heap) (locs : List Loc) (ls : Array Slot), K11 x1 x2 x3 σ → hh_H D hh_cl hm_Y cy ad s.heap σ H locs → lv_has ls 7 [(0, .ref (ad 0)), (1, .int x1), (2, .int x2), (3, .int x3)] → W p l e (headSpec wsX9_faultOf rm_X9_faultOf).room s m args below meth c H locs 0 0 (MQ below (va_Qi Q (hh_B D hh_cl hm_Y cy ad) (hh_A hm_Y ad)) args s 0 0 (hh_A hm_Y ad)) (F0 m 11 ls [])) (σ : hh_S) (H : Heap) (locs : List Loc) (ls : Array Slot), wq_X9_faultOf_439 K11 x2 x3 x6 Q σ → hh_H D hh_cl hm_Y cy ad s.heap σ H locs → lv_has ls 7 [(0, .ref (ad 0)), (2, .int x2), (3, .int x3), (6, .int x6)] → W p l e (headSpec wsX9_faultOf rm_X9_faultOf).room s m args below meth c H locs 0 0 (MQ below (va_Qi Q (hh_B D hh_cl hm_Y cy ad) (hh_A hm_Y ad)) args s 0 0 (hh_A hm_Y ad)) (F0 m 439 ls []) := by
    intro x2 x3 x6 K11 hK11 σ H locs ls hq h hl
    unfold wq_X9_faultOf_439 at hq
    refine lv_iload hx hb1 dX9_faultOf_439 (lv_at hl 3 rfl) ?_
    refine lv_if_ge (tgt := 446) hx hb1 dX9_faultOf_441 (by decide) (fun c1 => ?_) (fun c1 => ?_)
    · have hq := hq.1 c1
      refine lv_iload hx hb1 dX9_faultOf_446 (lv_at hl 3 rfl) ?_
      refine lv_istore_n (lv' := [(1, .int x6), (0, .ref (ad 0)), (2, .int x2), (3, .int x3), (6, .int x6)]) hx hb1 dX9_faultOf_448 rfl hl (by decide) rfl (fun ls hl => ?_)
      refine lv_iinc (v := (x3 + (1 : Int32))) (lv' := [(3, .int (x3 + (1 : Int32))), (1, .int x6), (0, .ref (ad 0)), (2, .int x2), (6, .int x6)]) hx hb1 dX9_faultOf_449 hl (k := 3) rfl rfl (by decide) rfl (fun ls hl => ?_)
      refine lv_goto (tgt := 11) hx hb1 dX9_faultOf_452 (by decide) ?_
      exact hK11 x6 x2 (x3 + (1 : Int32)) σ _ _ ls hq h (lv_sub hl [2, 1, 3, 0] rfl)
    · have hq := hq.2 c1
      refine lv_iload_n hx hb1 dX9_faultOf_444 rfl (lv_at hl 2 rfl) ?_
      exact hh_iret X h hr hlocks hq dX9_faultOf_445
  have jt_401 : ∀ (x1 : Int32) (x2 : Int32) (x3 : Int32) (x4 : Int32) (x5 : Int32) (x6 : Int32) (K11 : Int32 → Int32 → Int32 → hh_S → Prop) (hK11 : ∀ (x1 : Int32) (x2 : Int32) (x3 : Int32) (σ : hh_S) (H : Heap) (locs : List Loc) (ls : Array Slot), K11 x1 x2 x3 σ → hh_H D hh_cl hm_Y cy ad s.heap σ H locs → lv_has ls 7 [(0, .ref (ad 0)), (1, .int x1), (2, .int x2), (3, .int x3)] → W p l e (headSpec wsX9_faultOf rm_X9_faultOf).room s m args below meth c H locs 0 0 (MQ below (va_Qi Q (hh_B D hh_cl hm_Y cy ad) (hh_A hm_Y ad)) args s 0 0 (hh_A hm_Y ad)) (F0 m 11 ls [])) (σ : hh_S) (H : Heap) (locs : List Loc) (ls : Array Slot), wq_X9_faultOf_401 K11 x1 x2 x3 x4 x5 x6 Q σ → hh_H D hh_cl hm_Y cy ad s.heap σ H locs → lv_has ls 7 [(0, .ref (ad 0)), (1, .int x1), (2, .int x2), (3, .int x3), (4, .int x4), (5, .int x5), (6, .int x6)] → W p l e (headSpec wsX9_faultOf rm_X9_faultOf).room s m args below meth c H locs 0 0 (MQ below (va_Qi Q (hh_B D hh_cl hm_Y cy ad) (hh_A hm_Y ad)) args s 0 0 (hh_A hm_Y ad)) (F0 m 401 ls []) := by
    intro x1 x2 x3 x4 x5 x6 K11 hK11 σ H locs ls hq h hl
    unfold wq_X9_faultOf_401 at hq
    refine lv_iload_n hx hb1 dX9_faultOf_401 rfl (lv_at hl 1 rfl) ?_
    refine lv_bipush (v := (8 : Int32)) hx hb1 dX9_faultOf_402 (by decide) ?_
    refine lv_bipush (v := (10 : Int32)) hx hb1 dX9_faultOf_404 (by decide) ?_
    refine hh_kI h (va_runS (As := [.int x1, .int (8 : Int32), .int (10 : Int32)]) (rest := []) X.1 (ad_X9_in (D := D) l J x1 (8 : Int32) (10 : Int32) σ _ hq) (va_cwS 3 X.1.2.2.2.2 gX9_faultOf_X9_in rfl rfl rfl nd_X9_in ⟨Nat.le_of_ble_eq_true rfl, Nat.le_of_ble_eq_true rfl⟩) (hh_preS X h [.int x1, .int (8 : Int32), .int (10 : Int32)]) rfl rfl hl.1 rfl (lv_room (Nat.le_of_ble_eq_true rfl)) dX9_faultOf_406 ⟨Nat.le_of_ble_eq_true rfl, Nat.le_of_ble_eq_true rfl⟩) (fun r2 σ3 H locs hq h => ?_)
    refine lv_if_eq (tgt := 439) hx hb1 dX9_faultOf_409 (by decide) (fun c4 => ?_) (fun c4 => ?_)
    · have hq := hq.1 c4
      exact jt_439 x2 x3 x6 K11 hK11 σ3 _ _ ls hq h (lv_sub hl [0, 2, 3, 6] rfl)
    · have hq := hq.2 c4
      refine lv_iload hx hb1 dX9_faultOf_412 (lv_at hl 4 rfl) ?_
      refine lv_bipush (v := (59 : Int32)) hx hb1 dX9_faultOf_414 (by decide) ?_
      refine lv_icmp_ne (tgt := 439) hx hb1 dX9_faultOf_416 (by decide) (fun c5 => ?_) (fun c5 => ?_)
      · have hq := hq.1 c5
        exact jt_439 x2 x3 x6 K11 hK11 σ3 _ _ ls hq h (lv_sub hl [0, 2, 3, 6] rfl)
      · have hq := hq.2 c5
        refine lv_iload hx hb1 dX9_faultOf_419 (lv_at hl 5 rfl) ?_
        refine lv_bipush (v := (7 : Int32)) hx hb1 dX9_faultOf_421 (by decide) ?_
        refine lv_icmp_ge (tgt := 439) hx hb1 dX9_faultOf_423 (by decide) (fun c6 => ?_) (fun c6 => ?_)
        · have hq := hq.1 c6
          exact jt_439 x2 x3 x6 K11 hK11 σ3 _ _ ls hq h (lv_sub hl [0, 2, 3, 6] rfl)
        · have hq := hq.2 c6
          refine lv_aload_n hx hb1 dX9_faultOf_426 rfl (lv_at hl 0 rfl) ?_
          refine lv_dup hx hb1 dX9_faultOf_427 rfl ?_
          refine hh_geti X h (q := 27) fm_0_27 rfl in_X9_faultOf_X9 km_0 (by decide) (List.mem_of_getElem? (i := 1) rfl) rfl dX9_faultOf_428 ?_
          refine lv_iconst (v := (1 : Int32)) hx hb1 dX9_faultOf_431 (by decide) ?_
          refine lv_iadd hx hb1 dX9_faultOf_432 ?_
          refine hh_puti X h (q := 27) hm_n fm_0_27 rfl in_X9_faultOf_X9 km_0 tyX9 tyX9_ok nmX9 (by decide) (List.mem_of_getElem? (i := 1) rfl) rfl rfl rfl rfl dX9_faultOf_433 (fun σ7 H locs eσ7 h => ?_)
          have hq := hq σ7 eσ7
          refine lv_iconst (v := (0 : Int32)) hx hb1 dX9_faultOf_436 (by decide) ?_
          refine lv_istore (lv' := [(6, .int (0 : Int32)), (0, .ref (ad 0)), (1, .int x1), (2, .int x2), (3, .int x3), (4, .int x4), (5, .int x5)]) hx hb1 dX9_faultOf_437 hl (by decide) rfl (fun ls hl => ?_)
          exact jt_439 x2 x3 (0 : Int32) K11 hK11 σ7 _ _ ls hq h (lv_sub hl [1, 3, 4, 0] rfl)
  have jt_344 : ∀ (x1 : Int32) (x2 : Int32) (x3 : Int32) (x4 : Int32) (x5 : Int32) (x6 : Int32) (K11 : Int32 → Int32 → Int32 → hh_S → Prop) (hK11 : ∀ (x1 : Int32) (x2 : Int32) (x3 : Int32) (σ : hh_S) (H : Heap) (locs : List Loc) (ls : Array Slot), K11 x1 x2 x3 σ → hh_H D hh_cl hm_Y cy ad s.heap σ H locs → lv_has ls 7 [(0, .ref (ad 0)), (1, .int x1), (2, .int x2), (3, .int x3)] → W p l e (headSpec wsX9_faultOf rm_X9_faultOf).room s m args below meth c H locs 0 0 (MQ below (va_Qi Q (hh_B D hh_cl hm_Y cy ad) (hh_A hm_Y ad)) args s 0 0 (hh_A hm_Y ad)) (F0 m 11 ls [])) (σ : hh_S) (H : Heap) (locs : List Loc) (ls : Array Slot), wq_X9_faultOf_344 K11 x1 x2 x3 x4 x5 x6 Q σ → hh_H D hh_cl hm_Y cy ad s.heap σ H locs → lv_has ls 7 [(0, .ref (ad 0)), (1, .int x1), (2, .int x2), (3, .int x3), (4, .int x4), (5, .int x5), (6, .int x6)] → W p l e (headSpec wsX9_faultOf rm_X9_faultOf).room s m args below meth c H locs 0 0 (MQ below (va_Qi Q (hh_B D hh_cl hm_Y cy ad) (hh_A hm_Y ad)) args s 0 0 (hh_A hm_Y ad)) (F0 m 344 ls []) := by
    intro x1 x2 x3 x4 x5 x6 K11 hK11 σ H locs ls hq h hl
    unfold wq_X9_faultOf_344 at hq
    refine lv_iload_n hx hb1 dX9_faultOf_344 rfl (lv_at hl 1 rfl) ?_
    refine lv_bipush (v := (7 : Int32)) hx hb1 dX9_faultOf_345 (by decide) ?_
    refine lv_bipush (v := (10 : Int32)) hx hb1 dX9_faultOf_347 (by decide) ?_
    refine hh_kI h (va_runS (As := [.int x1, .int (7 : Int32), .int (10 : Int32)]) (rest := []) X.1 (ad_X9_in (D := D) l J x1 (7 : Int32) (10 : Int32) σ _ hq) (va_cwS 3 X.1.2.2.2.2 gX9_faultOf_X9_in rfl rfl rfl nd_X9_in ⟨Nat.le_of_ble_eq_true rfl, Nat.le_of_ble_eq_true rfl⟩) (hh_preS X h [.int x1, .int (7 : Int32), .int (10 : Int32)]) rfl rfl hl.1 rfl (lv_room (Nat.le_of_ble_eq_true rfl)) dX9_faultOf_349 ⟨Nat.le_of_ble_eq_true rfl, Nat.le_of_ble_eq_true rfl⟩) (fun r8 σ9 H locs hq h => ?_)
    refine lv_if_eq (tgt := 401) hx hb1 dX9_faultOf_352 (by decide) (fun c10 => ?_) (fun c10 => ?_)
    · have hq := hq.1 c10
      exact jt_401 x1 x2 x3 x4 x5 x6 K11 hK11 σ9 _ _ ls hq h (lv_sub hl [0, 1, 2, 3, 4, 5, 6] rfl)
    · have hq := hq.2 c10
      refine lv_iload hx hb1 dX9_faultOf_355 (lv_at hl 4 rfl) ?_
      refine lv_bipush (v := (48 : Int32)) hx hb1 dX9_faultOf_357 (by decide) ?_
      refine lv_bipush (v := (57 : Int32)) hx hb1 dX9_faultOf_359 (by decide) ?_
      refine hh_kI h (va_runS (As := [.int x4, .int (48 : Int32), .int (57 : Int32)]) (rest := []) X.1 (ad_X9_in (D := D) l J x4 (48 : Int32) (57 : Int32) σ9 _ hq) (va_cwS 3 X.1.2.2.2.2 gX9_faultOf_X9_in rfl rfl rfl nd_X9_in ⟨Nat.le_of_ble_eq_true rfl, Nat.le_of_ble_eq_true rfl⟩) (hh_preS X h [.int x4, .int (48 : Int32), .int (57 : Int32)]) rfl rfl hl.1 rfl (lv_room (Nat.le_of_ble_eq_true rfl)) dX9_faultOf_361 ⟨Nat.le_of_ble_eq_true rfl, Nat.le_of_ble_eq_true rfl⟩) (fun r11 σ12 H locs hq h => ?_)
      refine lv_if_eq (tgt := 401) hx hb1 dX9_faultOf_364 (by decide) (fun c13 => ?_) (fun c13 => ?_)
      · have hq := hq.1 c13
        exact jt_401 x1 x2 x3 x4 x5 x6 K11 hK11 σ12 _ _ ls hq h (lv_sub hl [0, 1, 2, 3, 4, 5, 6] rfl)
      · have hq := hq.2 c13
        refine lv_iload_n hx hb1 dX9_faultOf_367 rfl (lv_at hl 1 rfl) ?_
        refine lv_bipush (v := (10 : Int32)) hx hb1 dX9_faultOf_368 (by decide) ?_
        refine lv_icmp_ge (tgt := 401) hx hb1 dX9_faultOf_370 (by decide) (fun c14 => ?_) (fun c14 => ?_)
        · have hq := hq.1 c14
          exact jt_401 x1 x2 x3 x4 x5 x6 K11 hK11 σ12 _ _ ls hq h (lv_sub hl [0, 1, 2, 3, 4, 5, 6] rfl)
        · have hq := hq.2 c14
          refine lv_aload_n hx hb1 dX9_faultOf_373 rfl (lv_at hl 0 rfl) ?_
          refine hh_getr X h fm_0_31 in_X9_faultOf_X9 km_0 (by decide) (List.mem_of_getElem? (i := 7) rfl) rfl dX9_faultOf_374 ?_
          refine lv_iload hx hb1 dX9_faultOf_377 (lv_at hl 5 rfl) ?_
          refine lv_bipush (v := (10 : Int32)) hx hb1 dX9_faultOf_379 (by decide) ?_
          refine lv_aload_n hx hb1 dX9_faultOf_381 rfl (lv_at hl 0 rfl) ?_
          refine hh_getr X h fm_0_31 in_X9_faultOf_X9 km_0 (by decide) (List.mem_of_getElem? (i := 7) rfl) rfl dX9_faultOf_382 ?_
          refine lv_iload hx hb1 dX9_faultOf_385 (lv_at hl 5 rfl) ?_
          obtain ⟨h15, hq⟩ := hq
          refine hh_ild X h am_24 h15 dX9_faultOf_387 ?_
          refine lv_imul hx hb1 dX9_faultOf_388 ?_
          refine lv_iload hx hb1 dX9_faultOf_389 (lv_at hl 4 rfl) ?_
          refine lv_iadd hx hb1 dX9_faultOf_391 ?_
          refine lv_bipush (v := (48 : Int32)) hx hb1 dX9_faultOf_392 (by decide) ?_
          refine lv_isub hx hb1 dX9_faultOf_394 ?_
          obtain ⟨h16, hq⟩ := hq
          refine hh_ist X h am_24 h16 dX9_faultOf_395 (fun σ17 H locs eσ17 h => ?_)
          have hq := hq σ17 eσ17
          refine lv_iload_n hx hb1 dX9_faultOf_396 rfl (lv_at hl 1 rfl) ?_
          refine lv_iconst (v := (1 : Int32)) hx hb1 dX9_faultOf_397 (by decide) ?_
          refine lv_iadd hx hb1 dX9_faultOf_398 ?_
          refine lv_topi (fun v18 ev18 => ?_)
          have hq := hq v18 ev18
          refine lv_istore (lv' := [(6, .int v18), (0, .ref (ad 0)), (1, .int x1), (2, .int x2), (3, .int x3), (4, .int x4), (5, .int x5)]) hx hb1 dX9_faultOf_399 hl (by decide) rfl (fun ls hl => ?_)
          exact jt_401 x1 x2 x3 x4 x5 v18 K11 hK11 σ17 _ _ ls hq h (lv_sub hl [1, 2, 3, 4, 5, 6, 0] rfl)
  have jt_276 : ∀ (x1 : Int32) (x2 : Int32) (x3 : Int32) (x4 : Int32) (x5 : Int32) (x6 : Int32) (K11 : Int32 → Int32 → Int32 → hh_S → Prop) (hK11 : ∀ (x1 : Int32) (x2 : Int32) (x3 : Int32) (σ : hh_S) (H : Heap) (locs : List Loc) (ls : Array Slot), K11 x1 x2 x3 σ → hh_H D hh_cl hm_Y cy ad s.heap σ H locs → lv_has ls 7 [(0, .ref (ad 0)), (1, .int x1), (2, .int x2), (3, .int x3)] → W p l e (headSpec wsX9_faultOf rm_X9_faultOf).room s m args below meth c H locs 0 0 (MQ below (va_Qi Q (hh_B D hh_cl hm_Y cy ad) (hh_A hm_Y ad)) args s 0 0 (hh_A hm_Y ad)) (F0 m 11 ls [])) (σ : hh_S) (H : Heap) (locs : List Loc) (ls : Array Slot), wq_X9_faultOf_276 K11 x1 x2 x3 x4 x5 x6 Q σ → hh_H D hh_cl hm_Y cy ad s.heap σ H locs → lv_has ls 7 [(0, .ref (ad 0)), (1, .int x1), (2, .int x2), (3, .int x3), (4, .int x4), (5, .int x5), (6, .int x6)] → W p l e (headSpec wsX9_faultOf rm_X9_faultOf).room s m args below meth c H locs 0 0 (MQ below (va_Qi Q (hh_B D hh_cl hm_Y cy ad) (hh_A hm_Y ad)) args s 0 0 (hh_A hm_Y ad)) (F0 m 276 ls []) := by
    intro x1 x2 x3 x4 x5 x6 K11 hK11 σ H locs ls hq h hl
    unfold wq_X9_faultOf_276 at hq
    refine lv_iload hx hb1 dX9_faultOf_276 (lv_at hl 4 rfl) ?_
    refine lv_bipush (v := (97 : Int32)) hx hb1 dX9_faultOf_278 (by decide) ?_
    refine lv_bipush (v := (104 : Int32)) hx hb1 dX9_faultOf_280 (by decide) ?_
    refine hh_kI h (va_runS (As := [.int x4, .int (97 : Int32), .int (104 : Int32)]) (rest := []) X.1 (ad_X9_in (D := D) l J x4 (97 : Int32) (104 : Int32) σ _ hq) (va_cwS 3 X.1.2.2.2.2 gX9_faultOf_X9_in rfl rfl rfl nd_X9_in ⟨Nat.le_of_ble_eq_true rfl, Nat.le_of_ble_eq_true rfl⟩) (hh_preS X h [.int x4, .int (97 : Int32), .int (104 : Int32)]) rfl rfl hl.1 rfl (lv_room (Nat.le_of_ble_eq_true rfl)) dX9_faultOf_282 ⟨Nat.le_of_ble_eq_true rfl, Nat.le_of_ble_eq_true rfl⟩) (fun r19 σ20 H locs hq h => ?_)
    refine lv_if_eq (tgt := 344) hx hb1 dX9_faultOf_285 (by decide) (fun c21 => ?_) (fun c21 => ?_)
    · have hq := hq.1 c21
      exact jt_344 x1 x2 x3 x4 x5 x6 K11 hK11 σ20 _ _ ls hq h (lv_sub hl [0, 1, 2, 3, 4, 5, 6] rfl)
    · have hq := hq.2 c21
      refine lv_iload hx hb1 dX9_faultOf_288 (lv_at hl 4 rfl) ?_
      refine lv_bipush (v := (97 : Int32)) hx hb1 dX9_faultOf_290 (by decide) ?_
      refine lv_isub hx hb1 dX9_faultOf_292 ?_
      refine lv_iload_n hx hb1 dX9_faultOf_293 rfl (lv_at hl 2 rfl) ?_
      refine lv_icmp_le (tgt := 344) hx hb1 dX9_faultOf_294 (by decide) (fun c22 => ?_) (fun c22 => ?_)
      · have hq := hq.1 c22
        exact jt_344 x1 x2 x3 x4 x5 x6 K11 hK11 σ20 _ _ ls hq h (lv_sub hl [0, 1, 2, 3, 4, 5, 6] rfl)
      · have hq := hq.2 c22
        refine lv_aload_n hx hb1 dX9_faultOf_297 rfl (lv_at hl 0 rfl) ?_
        refine lv_iload hx hb1 dX9_faultOf_298 (lv_at hl 4 rfl) ?_
        refine lv_bipush (v := (97 : Int32)) hx hb1 dX9_faultOf_300 (by decide) ?_
        refine lv_isub hx hb1 dX9_faultOf_302 ?_
        refine lv_iload hx hb1 dX9_faultOf_303 (lv_at hl 5 rfl) ?_
        refine hh_kI h (va_runV (As := [.int (x4 - (97 : Int32)), .int x5]) (rest := []) X.1 (ad_X9_named (D := D) l J (x4 - (97 : Int32)) x5 σ20 _ hq) (cwV 2 X.1.2.2.2.2 gX9_faultOf_X9_named rfl rfl rfl nd_X9_named ⟨Nat.le_of_ble_eq_true rfl, Nat.le_of_ble_eq_true rfl⟩) (hh_preV X h fm_0_0 km_0 [.int (x4 - (97 : Int32)), .int x5]) rfl rfl hl.1 rfl (lv_room (Nat.le_of_ble_eq_true rfl)) dX9_faultOf_305 ⟨Nat.le_of_ble_eq_true rfl, Nat.le_of_ble_eq_true rfl⟩) (fun r23 σ24 H locs hq h => ?_)
        refine lv_if_lt (tgt := 344) hx hb1 dX9_faultOf_308 (by decide) (fun c25 => ?_) (fun c25 => ?_)
        · have hq := hq.1 c25
          exact jt_344 x1 x2 x3 x4 x5 x6 K11 hK11 σ24 _ _ ls hq h (lv_sub hl [0, 1, 2, 3, 4, 5, 6] rfl)
        · have hq := hq.2 c25
          refine lv_aload_n hx hb1 dX9_faultOf_311 rfl (lv_at hl 0 rfl) ?_
          refine hh_getr X h fm_0_30 in_X9_faultOf_X9 km_0 (by decide) (List.mem_of_getElem? (i := 5) rfl) rfl dX9_faultOf_312 ?_
          refine lv_iload hx hb1 dX9_faultOf_315 (lv_at hl 5 rfl) ?_
          refine lv_dup2_11 hx hb1 dX9_faultOf_317 rfl rfl ?_
          obtain ⟨h26, hq⟩ := hq
          refine hh_ild X h am_23 h26 dX9_faultOf_318 ?_
          refine lv_iconst (v := (1 : Int32)) hx hb1 dX9_faultOf_319 (by decide) ?_
          refine lv_aload_n hx hb1 dX9_faultOf_320 rfl (lv_at hl 0 rfl) ?_
          refine lv_iload hx hb1 dX9_faultOf_321 (lv_at hl 4 rfl) ?_
          refine lv_bipush (v := (97 : Int32)) hx hb1 dX9_faultOf_323 (by decide) ?_
          refine lv_isub hx hb1 dX9_faultOf_325 ?_
          refine lv_iload hx hb1 dX9_faultOf_326 (lv_at hl 5 rfl) ?_
          refine hh_kI h (va_runV (As := [.int (x4 - (97 : Int32)), .int x5]) (rest := [.int (1 : Int32), .int (hh_rA σ24 23 x5), .int x5, .ref (ad 23)]) X.1 (ad_X9_named (D := D) l J (x4 - (97 : Int32)) x5 σ24 _ hq) (cwV 2 X.1.2.2.2.2 gX9_faultOf_X9_named rfl rfl rfl nd_X9_named ⟨Nat.le_of_ble_eq_true rfl, Nat.le_of_ble_eq_true rfl⟩) (hh_preV X h fm_0_0 km_0 [.int (x4 - (97 : Int32)), .int x5]) rfl rfl hl.1 rfl (lv_room (Nat.le_of_ble_eq_true rfl)) dX9_faultOf_328 ⟨Nat.le_of_ble_eq_true rfl, Nat.le_of_ble_eq_true rfl⟩) (fun r27 σ28 H locs hq h => ?_)
          refine lv_ishl hx hb1 dX9_faultOf_331 ?_
          refine lv_ior hx hb1 dX9_faultOf_332 ?_
          obtain ⟨h29, hq⟩ := hq
          refine hh_ist X h am_23 h29 dX9_faultOf_333 (fun σ30 H locs eσ30 h => ?_)
          have hq := hq σ30 eσ30
          refine lv_iload hx hb1 dX9_faultOf_334 (lv_at hl 4 rfl) ?_
          refine lv_bipush (v := (97 : Int32)) hx hb1 dX9_faultOf_336 (by decide) ?_
          refine lv_isub hx hb1 dX9_faultOf_338 ?_
          refine lv_topi (fun v31 ev31 => ?_)
          have hq := hq v31 ev31
          refine lv_istore_n (lv' := [(2, .int v31), (0, .ref (ad 0)), (1, .int x1), (3, .int x3), (4, .int x4), (5, .int x5), (6, .int x6)]) hx hb1 dX9_faultOf_339 rfl hl (by decide) rfl (fun ls hl => ?_)
          refine lv_bipush (v := (6 : Int32)) hx hb1 dX9_faultOf_340 (by decide) ?_
          refine lv_istore (lv' := [(6, .int (6 : Int32)), (2, .int v31), (0, .ref (ad 0)), (1, .int x1), (3, .int x3), (4, .int x4), (5, .int x5)]) hx hb1 dX9_faultOf_342 hl (by decide) rfl (fun ls hl => ?_)
          exact jt_344 x1 v31 x3 x4 x5 (6 : Int32) K11 hK11 σ30 _ _ ls hq h (lv_sub hl [2, 3, 1, 4, 5, 6, 0] rfl)
  have jt_260 : ∀ (x1 : Int32) (x2 : Int32) (x3 : Int32) (x4 : Int32) (x5 : Int32) (x6 : Int32) (K11 : Int32 → Int32 → Int32 → hh_S → Prop) (hK11 : ∀ (x1 : Int32) (x2 : Int32) (x3 : Int32) (σ : hh_S) (H : Heap) (locs : List Loc) (ls : Array Slot), K11 x1 x2 x3 σ → hh_H D hh_cl hm_Y cy ad s.heap σ H locs → lv_has ls 7 [(0, .ref (ad 0)), (1, .int x1), (2, .int x2), (3, .int x3)] → W p l e (headSpec wsX9_faultOf rm_X9_faultOf).room s m args below meth c H locs 0 0 (MQ below (va_Qi Q (hh_B D hh_cl hm_Y cy ad) (hh_A hm_Y ad)) args s 0 0 (hh_A hm_Y ad)) (F0 m 11 ls [])) (σ : hh_S) (H : Heap) (locs : List Loc) (ls : Array Slot), wq_X9_faultOf_260 K11 x1 x2 x3 x4 x5 x6 Q σ → hh_H D hh_cl hm_Y cy ad s.heap σ H locs → lv_has ls 7 [(0, .ref (ad 0)), (1, .int x1), (2, .int x2), (3, .int x3), (4, .int x4), (5, .int x5), (6, .int x6)] → W p l e (headSpec wsX9_faultOf rm_X9_faultOf).room s m args below meth c H locs 0 0 (MQ below (va_Qi Q (hh_B D hh_cl hm_Y cy ad) (hh_A hm_Y ad)) args s 0 0 (hh_A hm_Y ad)) (F0 m 260 ls []) := by
    intro x1 x2 x3 x4 x5 x6 K11 hK11 σ H locs ls hq h hl
    unfold wq_X9_faultOf_260 at hq
    refine lv_iload hx hb1 dX9_faultOf_260 (lv_at hl 6 rfl) ?_
    refine lv_if_ge (tgt := 344) hx hb1 dX9_faultOf_262 (by decide) (fun c32 => ?_) (fun c32 => ?_)
    · have hq := hq.1 c32
      exact jt_344 x1 x2 x3 x4 x5 x6 K11 hK11 σ _ _ ls hq h (lv_sub hl [0, 1, 2, 3, 4, 5, 6] rfl)
    · have hq := hq.2 c32
      refine lv_iload_n hx hb1 dX9_faultOf_265 rfl (lv_at hl 1 rfl) ?_
      refine lv_iconst (v := (5 : Int32)) hx hb1 dX9_faultOf_266 (by decide) ?_
      refine lv_icmp_eq (tgt := 276) hx hb1 dX9_faultOf_267 (by decide) (fun c33 => ?_) (fun c33 => ?_)
      · have hq := hq.1 c33
        exact jt_276 x1 x2 x3 x4 x5 x6 K11 hK11 σ _ _ ls hq h (lv_sub hl [0, 1, 2, 3, 4, 5, 6] rfl)
      · have hq := hq.2 c33
        refine lv_iload_n hx hb1 dX9_faultOf_270 rfl (lv_at hl 1 rfl) ?_
        refine lv_bipush (v := (6 : Int32)) hx hb1 dX9_faultOf_271 (by decide) ?_
        refine lv_icmp_ne (tgt := 344) hx hb1 dX9_faultOf_273 (by decide) (fun c34 => ?_) (fun c34 => ?_)
        · have hq := hq.1 c34
          exact jt_344 x1 x2 x3 x4 x5 x6 K11 hK11 σ _ _ ls hq h (lv_sub hl [0, 1, 2, 3, 4, 5, 6] rfl)
        · have hq := hq.2 c34
          exact jt_276 x1 x2 x3 x4 x5 x6 K11 hK11 σ _ _ ls hq h (lv_sub hl [0, 1, 2, 3, 4, 5, 6] rfl)
  have jt_216 : ∀ (x1 : Int32) (x2 : Int32) (x3 : Int32) (x4 : Int32) (x5 : Int32) (x6 : Int32) (K11 : Int32 → Int32 → Int32 → hh_S → Prop) (hK11 : ∀ (x1 : Int32) (x2 : Int32) (x3 : Int32) (σ : hh_S) (H : Heap) (locs : List Loc) (ls : Array Slot), K11 x1 x2 x3 σ → hh_H D hh_cl hm_Y cy ad s.heap σ H locs → lv_has ls 7 [(0, .ref (ad 0)), (1, .int x1), (2, .int x2), (3, .int x3)] → W p l e (headSpec wsX9_faultOf rm_X9_faultOf).room s m args below meth c H locs 0 0 (MQ below (va_Qi Q (hh_B D hh_cl hm_Y cy ad) (hh_A hm_Y ad)) args s 0 0 (hh_A hm_Y ad)) (F0 m 11 ls [])) (σ : hh_S) (H : Heap) (locs : List Loc) (ls : Array Slot), wq_X9_faultOf_216 K11 x1 x2 x3 x4 x5 x6 Q σ → hh_H D hh_cl hm_Y cy ad s.heap σ H locs → lv_has ls 7 [(0, .ref (ad 0)), (1, .int x1), (2, .int x2), (3, .int x3), (4, .int x4), (5, .int x5), (6, .int x6)] → W p l e (headSpec wsX9_faultOf rm_X9_faultOf).room s m args below meth c H locs 0 0 (MQ below (va_Qi Q (hh_B D hh_cl hm_Y cy ad) (hh_A hm_Y ad)) args s 0 0 (hh_A hm_Y ad)) (F0 m 216 ls []) := by
    intro x1 x2 x3 x4 x5 x6 K11 hK11 σ H locs ls hq h hl
    unfold wq_X9_faultOf_216 at hq
    refine lv_iload hx hb1 dX9_faultOf_216 (lv_at hl 4 rfl) ?_
    refine lv_bipush (v := (33 : Int32)) hx hb1 dX9_faultOf_218 (by decide) ?_
    refine lv_icmp_ne (tgt := 238) hx hb1 dX9_faultOf_220 (by decide) (fun c35 => ?_) (fun c35 => ?_)
    · have hq := hq.1 c35
      refine lv_iload_n hx hb1 dX9_faultOf_238 rfl (lv_at hl 1 rfl) ?_
      refine lv_iconst (v := (4 : Int32)) hx hb1 dX9_faultOf_239 (by decide) ?_
      refine lv_icmp_ne (tgt := 260) hx hb1 dX9_faultOf_240 (by decide) (fun c36 => ?_) (fun c36 => ?_)
      · have hq := hq.1 c36
        exact jt_260 x1 x2 x3 x4 x5 x6 K11 hK11 σ _ _ ls hq h (lv_sub hl [0, 1, 2, 3, 4, 5, 6] rfl)
      · have hq := hq.2 c36
        refine lv_iload hx hb1 dX9_faultOf_243 (lv_at hl 4 rfl) ?_
        refine lv_bipush (v := (60 : Int32)) hx hb1 dX9_faultOf_245 (by decide) ?_
        refine lv_icmp_ne (tgt := 260) hx hb1 dX9_faultOf_247 (by decide) (fun c37 => ?_) (fun c37 => ?_)
        · have hq := hq.1 c37
          exact jt_260 x1 x2 x3 x4 x5 x6 K11 hK11 σ _ _ ls hq h (lv_sub hl [0, 1, 2, 3, 4, 5, 6] rfl)
        · have hq := hq.2 c37
          refine lv_iload hx hb1 dX9_faultOf_250 (lv_at hl 5 rfl) ?_
          refine lv_if_le (tgt := 260) hx hb1 dX9_faultOf_252 (by decide) (fun c38 => ?_) (fun c38 => ?_)
          · have hq := hq.1 c38
            exact jt_260 x1 x2 x3 x4 x5 x6 K11 hK11 σ _ _ ls hq h (lv_sub hl [0, 1, 2, 3, 4, 5, 6] rfl)
          · have hq := hq.2 c38
            refine lv_iconst (v := (5 : Int32)) hx hb1 dX9_faultOf_255 (by decide) ?_
            refine lv_istore (lv' := [(6, .int (5 : Int32)), (0, .ref (ad 0)), (1, .int x1), (2, .int x2), (3, .int x3), (4, .int x4), (5, .int x5)]) hx hb1 dX9_faultOf_256 hl (by decide) rfl (fun ls hl => ?_)
            refine lv_iconst (v := (-1 : Int32)) hx hb1 dX9_faultOf_258 (by decide) ?_
            refine lv_istore_n (lv' := [(2, .int (-1 : Int32)), (6, .int (5 : Int32)), (0, .ref (ad 0)), (1, .int x1), (3, .int x3), (4, .int x4), (5, .int x5)]) hx hb1 dX9_faultOf_259 rfl hl (by decide) rfl (fun ls hl => ?_)
            exact jt_260 x1 (-1 : Int32) x3 x4 x5 (5 : Int32) K11 hK11 σ _ _ ls hq h (lv_sub hl [2, 3, 0, 4, 5, 6, 1] rfl)
    · have hq := hq.2 c35
      refine lv_bipush (v := (7 : Int32)) hx hb1 dX9_faultOf_223 (by decide) ?_
      refine lv_istore (lv' := [(6, .int (7 : Int32)), (0, .ref (ad 0)), (1, .int x1), (2, .int x2), (3, .int x3), (4, .int x4), (5, .int x5)]) hx hb1 dX9_faultOf_225 hl (by decide) rfl (fun ls hl => ?_)
      refine lv_aload_n hx hb1 dX9_faultOf_227 rfl (lv_at hl 1 rfl) ?_
      refine hh_getr X h fm_0_31 in_X9_faultOf_X9 km_0 (by decide) (List.mem_of_getElem? (i := 7) rfl) rfl dX9_faultOf_228 ?_
      refine lv_iload hx hb1 dX9_faultOf_231 (lv_at hl 6 rfl) ?_
      refine lv_iconst (v := (0 : Int32)) hx hb1 dX9_faultOf_233 (by decide) ?_
      obtain ⟨h39, hq⟩ := hq
      refine hh_ist X h am_24 h39 dX9_faultOf_234 (fun σ40 H locs eσ40 h => ?_)
      have hq := hq σ40 eσ40
      refine lv_goto (tgt := 260) hx hb1 dX9_faultOf_235 (by decide) ?_
      exact jt_260 x1 x2 x3 x4 x5 (7 : Int32) K11 hK11 σ40 _ _ ls hq h (lv_sub hl [1, 2, 3, 4, 5, 6, 0] rfl)
  have lt_11 : ∀ (n : Nat) (x1 : Int32) (x2 : Int32) (x3 : Int32) (σ : hh_S) (H : Heap) (locs : List Loc) (ls : Array Slot), hh_lp3 (wq_X9_faultOf_11 Q) n x1 x2 x3 σ → hh_H D hh_cl hm_Y cy ad s.heap σ H locs → lv_has ls 7 [(0, .ref (ad 0)), (1, .int x1), (2, .int x2), (3, .int x3)] → W p l e (headSpec wsX9_faultOf rm_X9_faultOf).room s m args below meth c H locs 0 0 (MQ below (va_Qi Q (hh_B D hh_cl hm_Y cy ad) (hh_A hm_Y ad)) args s 0 0 (hh_A hm_Y ad)) (F0 m 11 ls []) := by
    intro n
    induction n with
    | zero => intro x1 x2 x3 σ H locs ls hq h hl; exact hq.elim
    | succ n ih =>
      intro x1 x2 x3 σ H locs ls hq h hl
      have hq : wq_X9_faultOf_11 Q (hh_lp3 (wq_X9_faultOf_11 Q) n) x1 x2 x3 σ := hq
      unfold wq_X9_faultOf_11 at hq
      refine lv_iload_n hx hb1 dX9_faultOf_11 rfl (lv_at hl 3 rfl) ?_
      refine lv_aload_n hx hb1 dX9_faultOf_12 rfl (lv_at hl 0 rfl) ?_
      refine hh_geti X h (q := 0) fm_0_0 rfl in_X9_faultOf_X9 km_0 (by decide) (List.mem_of_getElem? (i := 2) rfl) rfl dX9_faultOf_13 ?_
      refine lv_icmp_ge (tgt := 455) hx hb1 dX9_faultOf_16 (by decide) (fun c41 => ?_) (fun c41 => ?_)
      · have hq := hq.1 c41
        refine lv_aload_n hx hb1 dX9_faultOf_455 rfl (lv_at hl 0 rfl) ?_
        refine lv_dup hx hb1 dX9_faultOf_456 rfl ?_
        refine hh_geti X h (q := 27) fm_0_27 rfl in_X9_faultOf_X9 km_0 (by decide) (List.mem_of_getElem? (i := 1) rfl) rfl dX9_faultOf_457 ?_
        refine lv_iconst (v := (1 : Int32)) hx hb1 dX9_faultOf_460 (by decide) ?_
        refine lv_iadd hx hb1 dX9_faultOf_461 ?_
        refine hh_puti X h (q := 27) hm_n fm_0_27 rfl in_X9_faultOf_X9 km_0 tyX9 tyX9_ok nmX9 (by decide) (List.mem_of_getElem? (i := 1) rfl) rfl rfl rfl rfl dX9_faultOf_462 (fun σ42 H locs eσ42 h => ?_)
        have hq := hq σ42 eσ42
        refine lv_iload_n hx hb1 dX9_faultOf_465 rfl (lv_at hl 1 rfl) ?_
        refine lv_bipush (v := (8 : Int32)) hx hb1 dX9_faultOf_466 (by decide) ?_
        refine lv_bipush (v := (10 : Int32)) hx hb1 dX9_faultOf_468 (by decide) ?_
        refine hh_kI h (va_runS (As := [.int x1, .int (8 : Int32), .int (10 : Int32)]) (rest := []) X.1 (ad_X9_in (D := D) l J x1 (8 : Int32) (10 : Int32) σ42 _ hq) (va_cwS 3 X.1.2.2.2.2 gX9_faultOf_X9_in rfl rfl rfl nd_X9_in ⟨Nat.le_of_ble_eq_true rfl, Nat.le_of_ble_eq_true rfl⟩) (hh_preS X h [.int x1, .int (8 : Int32), .int (10 : Int32)]) rfl rfl hl.1 rfl (lv_room (Nat.le_of_ble_eq_true rfl)) dX9_faultOf_470 ⟨Nat.le_of_ble_eq_true rfl, Nat.le_of_ble_eq_true rfl⟩) (fun r43 σ44 H locs hq h => ?_)
        refine lv_if_eq (tgt := 481) hx hb1 dX9_faultOf_473 (by decide) (fun c45 => ?_) (fun c45 => ?_)
        · have hq := hq.1 c45
          refine lv_aload_n hx hb1 dX9_faultOf_481 rfl (lv_at hl 0 rfl) ?_
          refine hh_geti X h (q := 0) fm_0_0 rfl in_X9_faultOf_X9 km_0 (by decide) (List.mem_of_getElem? (i := 2) rfl) rfl dX9_faultOf_482 ?_
          exact hh_iret X h hr hlocks hq dX9_faultOf_485
        · have hq := hq.2 c45
          refine lv_bipush (v := (-6 : Int32)) hx hb1 dX9_faultOf_476 (by decide) ?_
          refine lv_goto (tgt := 485) hx hb1 dX9_faultOf_478 (by decide) ?_
          exact hh_iret X h hr hlocks hq dX9_faultOf_485
      · have hq := hq.2 c41
        refine lv_aload_n hx hb1 dX9_faultOf_19 rfl (lv_at hl 0 rfl) ?_
        refine hh_getr X h fm_0_1 in_X9_faultOf_X9 km_0 (by decide) (List.mem_of_getElem? (i := 3) rfl) rfl dX9_faultOf_20 ?_
        refine lv_iload_n hx hb1 dX9_faultOf_23 rfl (lv_at hl 3 rfl) ?_
        obtain ⟨h46, hq⟩ := hq
        refine hh_ild X h am_1 h46 dX9_faultOf_24 ?_
        refine lv_topi (fun v47 ev47 => ?_)
        have hq := hq v47 ev47
        refine lv_istore (lv' := [(4, .int v47), (0, .ref (ad 0)), (1, .int x1), (2, .int x2), (3, .int x3)]) hx hb1 dX9_faultOf_25 hl (by decide) rfl (fun ls hl => ?_)
        refine lv_aload_n hx hb1 dX9_faultOf_27 rfl (lv_at hl 1 rfl) ?_
        refine hh_geti X h (q := 27) fm_0_27 rfl in_X9_faultOf_X9 km_0 (by decide) (List.mem_of_getElem? (i := 1) rfl) rfl dX9_faultOf_28 ?_
        refine lv_topi (fun v48 ev48 => ?_)
        have hq := hq v48 ev48
        refine lv_istore (lv' := [(5, .int v48), (4, .int v47), (0, .ref (ad 0)), (1, .int x1), (2, .int x2), (3, .int x3)]) hx hb1 dX9_faultOf_31 hl (by decide) rfl (fun ls hl => ?_)
        refine lv_bipush (v := (-6 : Int32)) hx hb1 dX9_faultOf_33 (by decide) ?_
        refine lv_istore (lv' := [(6, .int (-6 : Int32)), (5, .int v48), (4, .int v47), (0, .ref (ad 0)), (1, .int x1), (2, .int x2), (3, .int x3)]) hx hb1 dX9_faultOf_35 hl (by decide) rfl (fun ls hl => ?_)
        refine lv_iload_n hx hb1 dX9_faultOf_37 rfl (lv_at hl 4 rfl) ?_
        refine lv_if_ne (tgt := 93) hx hb1 dX9_faultOf_38 (by decide) (fun c49 => ?_) (fun c49 => ?_)
        · have hq := hq.1 c49
          refine lv_iload_n hx hb1 dX9_faultOf_93 rfl (lv_at hl 4 rfl) ?_
          refine lv_iconst (v := (1 : Int32)) hx hb1 dX9_faultOf_94 (by decide) ?_
          refine lv_icmp_ne (tgt := 116) hx hb1 dX9_faultOf_95 (by decide) (fun c50 => ?_) (fun c50 => ?_)
          · have hq := hq.1 c50
            refine lv_iload_n hx hb1 dX9_faultOf_116 rfl (lv_at hl 4 rfl) ?_
            refine lv_iconst (v := (2 : Int32)) hx hb1 dX9_faultOf_117 (by decide) ?_
            refine lv_icmp_ne (tgt := 165) hx hb1 dX9_faultOf_118 (by decide) (fun c51 => ?_) (fun c51 => ?_)
            · have hq := hq.1 c51
              refine lv_iload_n hx hb1 dX9_faultOf_165 rfl (lv_at hl 4 rfl) ?_
              refine lv_iconst (v := (3 : Int32)) hx hb1 dX9_faultOf_166 (by decide) ?_
              refine lv_icmp_ne (tgt := 205) hx hb1 dX9_faultOf_167 (by decide) (fun c52 => ?_) (fun c52 => ?_)
              · have hq := hq.1 c52
                refine lv_iload_n hx hb1 dX9_faultOf_205 rfl (lv_at hl 4 rfl) ?_
                refine lv_iconst (v := (4 : Int32)) hx hb1 dX9_faultOf_206 (by decide) ?_
                refine lv_icmp_eq (tgt := 216) hx hb1 dX9_faultOf_207 (by decide) (fun c53 => ?_) (fun c53 => ?_)
                · have hq := hq.1 c53
                  exact jt_216 x1 x2 x3 v47 v48 (-6 : Int32) (hh_lp3 (wq_X9_faultOf_11 Q) n) ih σ _ _ ls hq h (lv_sub hl [3, 4, 5, 6, 2, 1, 0] rfl)
                · have hq := hq.2 c53
                  refine lv_iload_n hx hb1 dX9_faultOf_210 rfl (lv_at hl 4 rfl) ?_
                  refine lv_bipush (v := (6 : Int32)) hx hb1 dX9_faultOf_211 (by decide) ?_
                  refine lv_icmp_ne (tgt := 260) hx hb1 dX9_faultOf_213 (by decide) (fun c54 => ?_) (fun c54 => ?_)
                  · have hq := hq.1 c54
                    exact jt_260 x1 x2 x3 v47 v48 (-6 : Int32) (hh_lp3 (wq_X9_faultOf_11 Q) n) ih σ _ _ ls hq h (lv_sub hl [3, 4, 5, 6, 2, 1, 0] rfl)
                  · have hq := hq.2 c54
                    exact jt_216 x1 x2 x3 v47 v48 (-6 : Int32) (hh_lp3 (wq_X9_faultOf_11 Q) n) ih σ _ _ ls hq h (lv_sub hl [3, 4, 5, 6, 2, 1, 0] rfl)
              · have hq := hq.2 c52
                refine lv_iload hx hb1 dX9_faultOf_170 (lv_at hl 2 rfl) ?_
                refine lv_bipush (v := (50 : Int32)) hx hb1 dX9_faultOf_172 (by decide) ?_
                refine lv_bipush (v := (52 : Int32)) hx hb1 dX9_faultOf_174 (by decide) ?_
                refine hh_kI h (va_runS (As := [.int v47, .int (50 : Int32), .int (52 : Int32)]) (rest := []) X.1 (ad_X9_in (D := D) l J v47 (50 : Int32) (52 : Int32) σ _ hq) (va_cwS 3 X.1.2.2.2.2 gX9_faultOf_X9_in rfl rfl rfl nd_X9_in ⟨Nat.le_of_ble_eq_true rfl, Nat.le_of_ble_eq_true rfl⟩) (hh_preS X h [.int v47, .int (50 : Int32), .int (52 : Int32)]) rfl rfl hl.1 rfl (lv_room (Nat.le_of_ble_eq_true rfl)) dX9_faultOf_176 ⟨Nat.le_of_ble_eq_true rfl, Nat.le_of_ble_eq_true rfl⟩) (fun r55 σ56 H locs hq h => ?_)
                refine lv_if_eq (tgt := 186) hx hb1 dX9_faultOf_179 (by decide) (fun c57 => ?_) (fun c57 => ?_)
                · have hq := hq.1 c57
                  refine lv_bipush (v := (-6 : Int32)) hx hb1 dX9_faultOf_186 (by decide) ?_
                  refine lv_istore (lv' := [(6, .int (-6 : Int32)), (5, .int v48), (4, .int v47), (0, .ref (ad 0)), (1, .int x1), (2, .int x2), (3, .int x3)]) hx hb1 dX9_faultOf_188 hl (by decide) rfl (fun ls hl => ?_)
                  refine lv_aload_n hx hb1 dX9_faultOf_190 rfl (lv_at hl 3 rfl) ?_
                  refine hh_getr X h fm_0_29 in_X9_faultOf_X9 km_0 (by decide) (List.mem_of_getElem? (i := 6) rfl) rfl dX9_faultOf_191 ?_
                  refine lv_iload hx hb1 dX9_faultOf_194 (lv_at hl 1 rfl) ?_
                  refine lv_iload hx hb1 dX9_faultOf_196 (lv_at hl 2 rfl) ?_
                  refine lv_bipush (v := (48 : Int32)) hx hb1 dX9_faultOf_198 (by decide) ?_
                  refine lv_isub hx hb1 dX9_faultOf_200 ?_
                  obtain ⟨h58, hq⟩ := hq
                  refine hh_ist X h am_22 h58 dX9_faultOf_201 (fun σ59 H locs eσ59 h => ?_)
                  have hq := hq σ59 eσ59
                  refine lv_goto (tgt := 260) hx hb1 dX9_faultOf_202 (by decide) ?_
                  exact jt_260 x1 x2 x3 v47 v48 (-6 : Int32) (hh_lp3 (wq_X9_faultOf_11 Q) n) ih σ59 _ _ ls hq h (lv_sub hl [3, 4, 5, 6, 2, 1, 0] rfl)
                · have hq := hq.2 c57
                  refine lv_iconst (v := (4 : Int32)) hx hb1 dX9_faultOf_182 (by decide) ?_
                  refine lv_goto (tgt := 188) hx hb1 dX9_faultOf_183 (by decide) ?_
                  refine lv_istore (lv' := [(6, .int (4 : Int32)), (5, .int v48), (4, .int v47), (0, .ref (ad 0)), (1, .int x1), (2, .int x2), (3, .int x3)]) hx hb1 dX9_faultOf_188 hl (by decide) rfl (fun ls hl => ?_)
                  refine lv_aload_n hx hb1 dX9_faultOf_190 rfl (lv_at hl 3 rfl) ?_
                  refine hh_getr X h fm_0_29 in_X9_faultOf_X9 km_0 (by decide) (List.mem_of_getElem? (i := 6) rfl) rfl dX9_faultOf_191 ?_
                  refine lv_iload hx hb1 dX9_faultOf_194 (lv_at hl 1 rfl) ?_
                  refine lv_iload hx hb1 dX9_faultOf_196 (lv_at hl 2 rfl) ?_
                  refine lv_bipush (v := (48 : Int32)) hx hb1 dX9_faultOf_198 (by decide) ?_
                  refine lv_isub hx hb1 dX9_faultOf_200 ?_
                  obtain ⟨h60, hq⟩ := hq
                  refine hh_ist X h am_22 h60 dX9_faultOf_201 (fun σ61 H locs eσ61 h => ?_)
                  have hq := hq σ61 eσ61
                  refine lv_goto (tgt := 260) hx hb1 dX9_faultOf_202 (by decide) ?_
                  exact jt_260 x1 x2 x3 v47 v48 (4 : Int32) (hh_lp3 (wq_X9_faultOf_11 Q) n) ih σ61 _ _ ls hq h (lv_sub hl [3, 4, 5, 6, 2, 1, 0] rfl)
            · have hq := hq.2 c51
              refine lv_iload hx hb1 dX9_faultOf_121 (lv_at hl 2 rfl) ?_
              refine lv_bipush (v := (67 : Int32)) hx hb1 dX9_faultOf_123 (by decide) ?_
              refine lv_icmp_ne (tgt := 132) hx hb1 dX9_faultOf_125 (by decide) (fun c62 => ?_) (fun c62 => ?_)
              · have hq := hq.1 c62
                refine lv_iload hx hb1 dX9_faultOf_132 (lv_at hl 2 rfl) ?_
                refine lv_bipush (v := (75 : Int32)) hx hb1 dX9_faultOf_134 (by decide) ?_
                refine lv_icmp_eq (tgt := 146) hx hb1 dX9_faultOf_136 (by decide) (fun c63 => ?_) (fun c63 => ?_)
                · have hq := hq.1 c63
                  refine lv_iconst (v := (4 : Int32)) hx hb1 dX9_faultOf_146 (by decide) ?_
                  refine lv_goto (tgt := 152) hx hb1 dX9_faultOf_147 (by decide) ?_
                  refine lv_istore (lv' := [(6, .int (4 : Int32)), (5, .int v48), (4, .int v47), (0, .ref (ad 0)), (1, .int x1), (2, .int x2), (3, .int x3)]) hx hb1 dX9_faultOf_152 hl (by decide) rfl (fun ls hl => ?_)
                  refine lv_aload_n hx hb1 dX9_faultOf_154 rfl (lv_at hl 3 rfl) ?_
                  refine hh_getr X h fm_0_29 in_X9_faultOf_X9 km_0 (by decide) (List.mem_of_getElem? (i := 6) rfl) rfl dX9_faultOf_155 ?_
                  refine lv_iload hx hb1 dX9_faultOf_158 (lv_at hl 1 rfl) ?_
                  refine lv_iconst (v := (2 : Int32)) hx hb1 dX9_faultOf_160 (by decide) ?_
                  obtain ⟨h64, hq⟩ := hq
                  refine hh_ist X h am_22 h64 dX9_faultOf_161 (fun σ65 H locs eσ65 h => ?_)
                  have hq := hq σ65 eσ65
                  refine lv_goto (tgt := 260) hx hb1 dX9_faultOf_162 (by decide) ?_
                  exact jt_260 x1 x2 x3 v47 v48 (4 : Int32) (hh_lp3 (wq_X9_faultOf_11 Q) n) ih σ65 _ _ ls hq h (lv_sub hl [3, 4, 5, 6, 2, 1, 0] rfl)
                · have hq := hq.2 c63
                  refine lv_iload hx hb1 dX9_faultOf_139 (lv_at hl 2 rfl) ?_
                  refine lv_bipush (v := (79 : Int32)) hx hb1 dX9_faultOf_141 (by decide) ?_
                  refine lv_icmp_ne (tgt := 150) hx hb1 dX9_faultOf_143 (by decide) (fun c66 => ?_) (fun c66 => ?_)
                  · have hq := hq.1 c66
                    refine lv_bipush (v := (-6 : Int32)) hx hb1 dX9_faultOf_150 (by decide) ?_
                    refine lv_istore (lv' := [(6, .int (-6 : Int32)), (5, .int v48), (4, .int v47), (0, .ref (ad 0)), (1, .int x1), (2, .int x2), (3, .int x3)]) hx hb1 dX9_faultOf_152 hl (by decide) rfl (fun ls hl => ?_)
                    refine lv_aload_n hx hb1 dX9_faultOf_154 rfl (lv_at hl 3 rfl) ?_
                    refine hh_getr X h fm_0_29 in_X9_faultOf_X9 km_0 (by decide) (List.mem_of_getElem? (i := 6) rfl) rfl dX9_faultOf_155 ?_
                    refine lv_iload hx hb1 dX9_faultOf_158 (lv_at hl 1 rfl) ?_
                    refine lv_iconst (v := (2 : Int32)) hx hb1 dX9_faultOf_160 (by decide) ?_
                    obtain ⟨h67, hq⟩ := hq
                    refine hh_ist X h am_22 h67 dX9_faultOf_161 (fun σ68 H locs eσ68 h => ?_)
                    have hq := hq σ68 eσ68
                    refine lv_goto (tgt := 260) hx hb1 dX9_faultOf_162 (by decide) ?_
                    exact jt_260 x1 x2 x3 v47 v48 (-6 : Int32) (hh_lp3 (wq_X9_faultOf_11 Q) n) ih σ68 _ _ ls hq h (lv_sub hl [3, 4, 5, 6, 2, 1, 0] rfl)
                  · have hq := hq.2 c66
                    refine lv_iconst (v := (4 : Int32)) hx hb1 dX9_faultOf_146 (by decide) ?_
                    refine lv_goto (tgt := 152) hx hb1 dX9_faultOf_147 (by decide) ?_
                    refine lv_istore (lv' := [(6, .int (4 : Int32)), (5, .int v48), (4, .int v47), (0, .ref (ad 0)), (1, .int x1), (2, .int x2), (3, .int x3)]) hx hb1 dX9_faultOf_152 hl (by decide) rfl (fun ls hl => ?_)
                    refine lv_aload_n hx hb1 dX9_faultOf_154 rfl (lv_at hl 3 rfl) ?_
                    refine hh_getr X h fm_0_29 in_X9_faultOf_X9 km_0 (by decide) (List.mem_of_getElem? (i := 6) rfl) rfl dX9_faultOf_155 ?_
                    refine lv_iload hx hb1 dX9_faultOf_158 (lv_at hl 1 rfl) ?_
                    refine lv_iconst (v := (2 : Int32)) hx hb1 dX9_faultOf_160 (by decide) ?_
                    obtain ⟨h69, hq⟩ := hq
                    refine hh_ist X h am_22 h69 dX9_faultOf_161 (fun σ70 H locs eσ70 h => ?_)
                    have hq := hq σ70 eσ70
                    refine lv_goto (tgt := 260) hx hb1 dX9_faultOf_162 (by decide) ?_
                    exact jt_260 x1 x2 x3 v47 v48 (4 : Int32) (hh_lp3 (wq_X9_faultOf_11 Q) n) ih σ70 _ _ ls hq h (lv_sub hl [3, 4, 5, 6, 2, 1, 0] rfl)
              · have hq := hq.2 c62
                refine lv_iconst (v := (3 : Int32)) hx hb1 dX9_faultOf_128 (by decide) ?_
                refine lv_goto (tgt := 152) hx hb1 dX9_faultOf_129 (by decide) ?_
                refine lv_istore (lv' := [(6, .int (3 : Int32)), (5, .int v48), (4, .int v47), (0, .ref (ad 0)), (1, .int x1), (2, .int x2), (3, .int x3)]) hx hb1 dX9_faultOf_152 hl (by decide) rfl (fun ls hl => ?_)
                refine lv_aload_n hx hb1 dX9_faultOf_154 rfl (lv_at hl 3 rfl) ?_
                refine hh_getr X h fm_0_29 in_X9_faultOf_X9 km_0 (by decide) (List.mem_of_getElem? (i := 6) rfl) rfl dX9_faultOf_155 ?_
                refine lv_iload hx hb1 dX9_faultOf_158 (lv_at hl 1 rfl) ?_
                refine lv_iconst (v := (2 : Int32)) hx hb1 dX9_faultOf_160 (by decide) ?_
                obtain ⟨h71, hq⟩ := hq
                refine hh_ist X h am_22 h71 dX9_faultOf_161 (fun σ72 H locs eσ72 h => ?_)
                have hq := hq σ72 eσ72
                refine lv_goto (tgt := 260) hx hb1 dX9_faultOf_162 (by decide) ?_
                exact jt_260 x1 x2 x3 v47 v48 (3 : Int32) (hh_lp3 (wq_X9_faultOf_11 Q) n) ih σ72 _ _ ls hq h (lv_sub hl [3, 4, 5, 6, 2, 1, 0] rfl)
          · have hq := hq.2 c50
            refine lv_iload hx hb1 dX9_faultOf_98 (lv_at hl 2 rfl) ?_
            refine lv_bipush (v := (58 : Int32)) hx hb1 dX9_faultOf_100 (by decide) ?_
            refine lv_icmp_ne (tgt := 109) hx hb1 dX9_faultOf_102 (by decide) (fun c73 => ?_) (fun c73 => ?_)
            · have hq := hq.1 c73
              refine lv_bipush (v := (-6 : Int32)) hx hb1 dX9_faultOf_109 (by decide) ?_
              refine lv_istore (lv' := [(6, .int (-6 : Int32)), (5, .int v48), (4, .int v47), (0, .ref (ad 0)), (1, .int x1), (2, .int x2), (3, .int x3)]) hx hb1 dX9_faultOf_111 hl (by decide) rfl (fun ls hl => ?_)
              refine lv_goto (tgt := 260) hx hb1 dX9_faultOf_113 (by decide) ?_
              exact jt_260 x1 x2 x3 v47 v48 (-6 : Int32) (hh_lp3 (wq_X9_faultOf_11 Q) n) ih σ _ _ ls hq h (lv_sub hl [3, 4, 5, 6, 2, 1, 0] rfl)
            · have hq := hq.2 c73
              refine lv_iconst (v := (2 : Int32)) hx hb1 dX9_faultOf_105 (by decide) ?_
              refine lv_goto (tgt := 111) hx hb1 dX9_faultOf_106 (by decide) ?_
              refine lv_istore (lv' := [(6, .int (2 : Int32)), (5, .int v48), (4, .int v47), (0, .ref (ad 0)), (1, .int x1), (2, .int x2), (3, .int x3)]) hx hb1 dX9_faultOf_111 hl (by decide) rfl (fun ls hl => ?_)
              refine lv_goto (tgt := 260) hx hb1 dX9_faultOf_113 (by decide) ?_
              exact jt_260 x1 x2 x3 v47 v48 (2 : Int32) (hh_lp3 (wq_X9_faultOf_11 Q) n) ih σ _ _ ls hq h (lv_sub hl [3, 4, 5, 6, 2, 1, 0] rfl)
        · have hq := hq.2 c49
          refine lv_iload hx hb1 dX9_faultOf_41 (lv_at hl 2 rfl) ?_
          refine lv_bipush (v := (97 : Int32)) hx hb1 dX9_faultOf_43 (by decide) ?_
          refine lv_bipush (v := (104 : Int32)) hx hb1 dX9_faultOf_45 (by decide) ?_
          refine hh_kI h (va_runS (As := [.int v47, .int (97 : Int32), .int (104 : Int32)]) (rest := []) X.1 (ad_X9_in (D := D) l J v47 (97 : Int32) (104 : Int32) σ _ hq) (va_cwS 3 X.1.2.2.2.2 gX9_faultOf_X9_in rfl rfl rfl nd_X9_in ⟨Nat.le_of_ble_eq_true rfl, Nat.le_of_ble_eq_true rfl⟩) (hh_preS X h [.int v47, .int (97 : Int32), .int (104 : Int32)]) rfl rfl hl.1 rfl (lv_room (Nat.le_of_ble_eq_true rfl)) dX9_faultOf_47 ⟨Nat.le_of_ble_eq_true rfl, Nat.le_of_ble_eq_true rfl⟩) (fun r74 σ75 H locs hq h => ?_)
          refine lv_if_eq (tgt := 260) hx hb1 dX9_faultOf_50 (by decide) (fun c76 => ?_) (fun c76 => ?_)
          · have hq := hq.1 c76
            exact jt_260 x1 x2 x3 v47 v48 (-6 : Int32) (hh_lp3 (wq_X9_faultOf_11 Q) n) ih σ75 _ _ ls hq h (lv_sub hl [3, 4, 5, 6, 2, 1, 0] rfl)
          · have hq := hq.2 c76
            refine lv_aload_n hx hb1 dX9_faultOf_53 rfl (lv_at hl 3 rfl) ?_
            refine lv_iload hx hb1 dX9_faultOf_54 (lv_at hl 2 rfl) ?_
            refine lv_bipush (v := (97 : Int32)) hx hb1 dX9_faultOf_56 (by decide) ?_
            refine lv_isub hx hb1 dX9_faultOf_58 ?_
            refine lv_iload hx hb1 dX9_faultOf_59 (lv_at hl 1 rfl) ?_
            refine hh_kI h (va_runV (As := [.int (v47 - (97 : Int32)), .int v48]) (rest := []) X.1 (ad_X9_named (D := D) l J (v47 - (97 : Int32)) v48 σ75 _ hq) (cwV 2 X.1.2.2.2.2 gX9_faultOf_X9_named rfl rfl rfl nd_X9_named ⟨Nat.le_of_ble_eq_true rfl, Nat.le_of_ble_eq_true rfl⟩) (hh_preV X h fm_0_0 km_0 [.int (v47 - (97 : Int32)), .int v48]) rfl rfl hl.1 rfl (lv_room (Nat.le_of_ble_eq_true rfl)) dX9_faultOf_61 ⟨Nat.le_of_ble_eq_true rfl, Nat.le_of_ble_eq_true rfl⟩) (fun r77 σ78 H locs hq h => ?_)
            refine lv_if_ge (tgt := 260) hx hb1 dX9_faultOf_64 (by decide) (fun c79 => ?_) (fun c79 => ?_)
            · have hq := hq.1 c79
              exact jt_260 x1 x2 x3 v47 v48 (-6 : Int32) (hh_lp3 (wq_X9_faultOf_11 Q) n) ih σ78 _ _ ls hq h (lv_sub hl [3, 4, 5, 6, 2, 1, 0] rfl)
            · have hq := hq.2 c79
              refine lv_aload_n hx hb1 dX9_faultOf_67 rfl (lv_at hl 3 rfl) ?_
              refine hh_getr X h fm_0_28 in_X9_faultOf_X9 km_0 (by decide) (List.mem_of_getElem? (i := 4) rfl) rfl dX9_faultOf_68 ?_
              refine lv_iload hx hb1 dX9_faultOf_71 (lv_at hl 1 rfl) ?_
              refine lv_iload hx hb1 dX9_faultOf_73 (lv_at hl 2 rfl) ?_
              refine lv_bipush (v := (97 : Int32)) hx hb1 dX9_faultOf_75 (by decide) ?_
              refine lv_isub hx hb1 dX9_faultOf_77 ?_
              obtain ⟨h80, hq⟩ := hq
              refine hh_ist X h am_21 h80 dX9_faultOf_78 (fun σ81 H locs eσ81 h => ?_)
              have hq := hq σ81 eσ81
              refine lv_aload_n hx hb1 dX9_faultOf_79 rfl (lv_at hl 3 rfl) ?_
              refine hh_getr X h fm_0_30 in_X9_faultOf_X9 km_0 (by decide) (List.mem_of_getElem? (i := 5) rfl) rfl dX9_faultOf_80 ?_
              refine lv_iload hx hb1 dX9_faultOf_83 (lv_at hl 1 rfl) ?_
              refine lv_iconst (v := (0 : Int32)) hx hb1 dX9_faultOf_85 (by decide) ?_
              obtain ⟨h82, hq⟩ := hq
              refine hh_ist X h am_23 h82 dX9_faultOf_86 (fun σ83 H locs eσ83 h => ?_)
              have hq := hq σ83 eσ83
              refine lv_iconst (v := (1 : Int32)) hx hb1 dX9_faultOf_87 (by decide) ?_
              refine lv_istore (lv' := [(6, .int (1 : Int32)), (5, .int v48), (4, .int v47), (0, .ref (ad 0)), (1, .int x1), (2, .int x2), (3, .int x3)]) hx hb1 dX9_faultOf_88 hl (by decide) rfl (fun ls hl => ?_)
              refine lv_goto (tgt := 260) hx hb1 dX9_faultOf_90 (by decide) ?_
              exact jt_260 x1 x2 x3 v47 v48 (1 : Int32) (hh_lp3 (wq_X9_faultOf_11 Q) n) ih σ83 _ _ ls hq h (lv_sub hl [3, 4, 5, 6, 2, 1, 0] rfl)
  subst hargs
  refine hh_entry (vs := [.ref (ad 0)]) (Nat.le_of_ble_eq_true rfl) (fun ls hl => ?_)
  have hl : lv_has ls 7 [(0, .ref (ad 0))] := hl
  have hq : wp_X9_faultOf σ Q := hq
  unfold wp_X9_faultOf at hq
  refine lv_iconst (v := (0 : Int32)) hx hb1 dX9_faultOf_0 (by decide) ?_
  refine lv_istore_n (lv' := [(1, .int (0 : Int32)), (0, .ref (ad 0))]) hx hb1 dX9_faultOf_1 rfl hl (by decide) rfl (fun ls hl => ?_)
  refine lv_iconst (v := (-1 : Int32)) hx hb1 dX9_faultOf_2 (by decide) ?_
  refine lv_istore_n (lv' := [(2, .int (-1 : Int32)), (1, .int (0 : Int32)), (0, .ref (ad 0))]) hx hb1 dX9_faultOf_3 rfl hl (by decide) rfl (fun ls hl => ?_)
  refine lv_aload_n hx hb1 dX9_faultOf_4 rfl (lv_at hl 2 rfl) ?_
  refine lv_iconst (v := (0 : Int32)) hx hb1 dX9_faultOf_5 (by decide) ?_
  refine hh_puti X h (q := 27) hm_n fm_0_27 rfl in_X9_faultOf_X9 km_0 tyX9 tyX9_ok nmX9 (by decide) (List.mem_of_getElem? (i := 1) rfl) rfl rfl rfl rfl dX9_faultOf_6 (fun σ84 H locs eσ84 h => ?_)
  have hq := hq σ84 eσ84
  refine lv_iconst (v := (0 : Int32)) hx hb1 dX9_faultOf_9 (by decide) ?_
  refine lv_istore_n (lv' := [(3, .int (0 : Int32)), (2, .int (-1 : Int32)), (1, .int (0 : Int32)), (0, .ref (ad 0))]) hx hb1 dX9_faultOf_10 rfl hl (by decide) rfl (fun ls hl => ?_)
  obtain ⟨n85, hq⟩ := hq
  exact lt_11 n85 (0 : Int32) (-1 : Int32) (0 : Int32) σ84 _ _ ls hq h (lv_sub hl [3, 2, 1, 0] rfl)
theorem nd_X9_fault : yX9_fault.cls = RX9 ∧ yX9_fault.cls ≠ "java/lang/invoke/MethodHandle" ∧ yX9_fault.cls ≠ "java/lang/invoke/VarHandle" ∧ (parseMethodDescriptor yX9_fault.desc).map (fun d => d.parameters.length) = some 0 := by decide +kernel
abbrev rm_X9_fault : Room := { frames := 2, cells := 0, slots := 0, locals := 49 }
def wp_X9_fault (σ : hh_S) (Q : Int32 → hh_S → Prop) : Prop := (wp_X9_faultOf σ (fun (r1 : Int32) (σ2 : hh_S) => (Q r1 σ2)))
theorem in_X9_fault_X9 : ∀ w ∈ u_ws RX9 TX9 37, w ∈ wsX9_fault := fun w h => List.mem_cons_of_mem _ (List.mem_append_right _ h)
set_option maxHeartbeats 4000000 in
set_option maxRecDepth 100000 in
theorem ad_X9_fault {D : va_G} (l : Launch) {cy : Nat → ClassId} {ad : Nat → Nat} (J : hh_J hm_Y ad) (σ : hh_S) (Q : Int32 → hh_S → Prop) (hq : wp_X9_fault σ Q) : Met l yX9_fault wsX9_fault rm_X9_fault (va_Pc [.ref (ad 0)] (hh_B D hh_cl hm_Y cy ad σ)) (va_Qi Q (hh_B D hh_cl hm_Y cy ad) (hh_A hm_Y ad)) 0 0 (hh_A hm_Y ad) := by
  refine Met.ofW (cc := cX9_fault) (maxL := 1) (ret := (some .int)) (by decide) rfl ?_
  intro p e s m args below meth c s₁ B hml hv
  obtain ⟨hargs, hP0, hK0⟩ := hv
  have hr := B.returns
  have hlocks := B.notSynchronized
  have X : hh_X p m c cX9_fault 1 s args wsX9_fault RX9 D hh_cl hm_Y cy ad := ⟨⟨B.exec, B.bytes, hml, findClass_of_methodNamed B.named, atoms_spec (ws := wsX9_fault) B.pre⟩, hK0, J⟩
  have hx := X.1.1
  have hb1 := X.1.2.1
  have h : hh_H D hh_cl hm_Y cy ad s.heap σ s.heap [] := ⟨hP0, va_S.rf⟩
  subst hargs
  refine hh_entry (vs := [.ref (ad 0)]) (Nat.le_of_ble_eq_true rfl) (fun ls hl => ?_)
  have hl : lv_has ls 1 [(0, .ref (ad 0))] := hl
  have hq : wp_X9_fault σ Q := hq
  unfold wp_X9_fault at hq
  refine lv_aload_n hx hb1 dX9_fault_0 rfl (lv_at hl 0 rfl) ?_
  refine hh_kI h (va_runV (As := []) (rest := []) X.1 (ad_X9_faultOf (D := D) l J σ _ hq) (cwV 0 X.1.2.2.2.2 gX9_fault_X9_faultOf rfl rfl rfl nd_X9_faultOf ⟨Nat.le_of_ble_eq_true rfl, Nat.le_of_ble_eq_true rfl⟩) (hh_preV X h fm_0_0 km_0 []) rfl rfl hl.1 rfl (lv_room (Nat.le_of_ble_eq_true rfl)) dX9_fault_1 ⟨Nat.le_of_ble_eq_true rfl, Nat.le_of_ble_eq_true rfl⟩) (fun r1 σ2 H locs hq h => ?_)
  exact hh_iret X h hr hlocks hq dX9_fault_4
theorem nd_X9_task : yX9_task.cls = RX9 ∧ yX9_task.cls ≠ "java/lang/invoke/MethodHandle" ∧ yX9_task.cls ≠ "java/lang/invoke/VarHandle" ∧ (parseMethodDescriptor yX9_task.desc).map (fun d => d.parameters.length) = some 0 := by decide +kernel
abbrev rm_X9_task : Room := { frames := 2, cells := 0, slots := 0, locals := 49 }
def wq_X9_task_20 (Q : Int32 → hh_S → Prop) (K20 : Int32 → hh_S → Prop) (x1 : Int32) (σ : hh_S) : Prop := (((hh_I σ 2) ≤ x1 → (∀ σ2 : hh_S, σ2 = hh_uI σ 7 (0 : Int32) → (∀ σ3 : hh_S, σ3 = hh_uI σ2 13 (0 : Int32) → (∀ σ4 : hh_S, σ4 = hh_uI σ3 0 (0 : Int32) → (∀ σ5 : hh_S, σ5 = hh_uI σ4 20 (0 : Int32) → (∀ σ6 : hh_S, σ6 = hh_uI σ5 21 (0 : Int32) → (∀ σ7 : hh_S, σ7 = hh_uI σ6 22 (0 : Int32) → (Q (hh_I σ7 2) σ7)))))))) ∧ (¬ (hh_I σ 2) ≤ x1 → (vp_in x1 8 ∧ (vp_in x1 8 ∧ ∀ σ10 : hh_S, σ10 = hh_sA σ 2 x1 (hh_rA σ 21 x1) → (vp_in x1 8 ∧ (vp_in x1 8 ∧ ∀ σ13 : hh_S, σ13 = hh_sA σ10 3 x1 (hh_rA σ10 22 x1) → (vp_in x1 8 ∧ (vp_in x1 8 ∧ ∀ σ16 : hh_S, σ16 = hh_sA σ13 4 x1 (hh_rA σ13 23 x1) → (vp_in x1 8 ∧ (vp_in x1 8 ∧ ∀ σ19 : hh_S, σ19 = hh_sA σ16 5 x1 (hh_rA σ16 24 x1) → (K20 (x1 + (1 : Int32)) σ19)))))))))))
def wp_X9_task (σ : hh_S) (Q : Int32 → hh_S → Prop) : Prop := (wp_X9_faultOf σ (fun (r20 : Int32) (σ21 : hh_S) => ((r20 < 0 → (∀ σ23 : hh_S, σ23 = hh_uI σ21 2 (hh_I σ21 27) → (∃ n : Nat, hh_lp1 (wq_X9_task_20 Q) n (0 : Int32) σ23))) ∧ (¬ r20 < 0 → (Q (-5 : Int32) σ21)))))
theorem in_X9_task_X9 : ∀ w ∈ u_ws RX9 TX9 37, w ∈ wsX9_task := fun w h => List.mem_cons_of_mem _ (List.mem_append_right _ h)
set_option maxHeartbeats 4000000 in
set_option maxRecDepth 100000 in
theorem ad_X9_task {D : va_G} (l : Launch) {cy : Nat → ClassId} {ad : Nat → Nat} (J : hh_J hm_Y ad) (σ : hh_S) (Q : Int32 → hh_S → Prop) (hq : wp_X9_task σ Q) : Met l yX9_task wsX9_task rm_X9_task (va_Pc [.ref (ad 0)] (hh_B D hh_cl hm_Y cy ad σ)) (va_Qi Q (hh_B D hh_cl hm_Y cy ad) (hh_A hm_Y ad)) 0 0 (hh_A hm_Y ad) := by
  refine Met.ofW (cc := cX9_task) (maxL := 2) (ret := (some .int)) (by decide) rfl ?_
  intro p e s m args below meth c s₁ B hml hv
  obtain ⟨hargs, hP0, hK0⟩ := hv
  have hr := B.returns
  have hlocks := B.notSynchronized
  have X : hh_X p m c cX9_task 2 s args wsX9_task RX9 D hh_cl hm_Y cy ad := ⟨⟨B.exec, B.bytes, hml, findClass_of_methodNamed B.named, atoms_spec (ws := wsX9_task) B.pre⟩, hK0, J⟩
  have hx := X.1.1
  have hb1 := X.1.2.1
  have h : hh_H D hh_cl hm_Y cy ad s.heap σ s.heap [] := ⟨hP0, va_S.rf⟩
  have lt_20 : ∀ (n : Nat) (x1 : Int32) (σ : hh_S) (H : Heap) (locs : List Loc) (ls : Array Slot), hh_lp1 (wq_X9_task_20 Q) n x1 σ → hh_H D hh_cl hm_Y cy ad s.heap σ H locs → lv_has ls 2 [(0, .ref (ad 0)), (1, .int x1)] → W p l e (headSpec wsX9_task rm_X9_task).room s m args below meth c H locs 0 0 (MQ below (va_Qi Q (hh_B D hh_cl hm_Y cy ad) (hh_A hm_Y ad)) args s 0 0 (hh_A hm_Y ad)) (F0 m 20 ls []) := by
    intro n
    induction n with
    | zero => intro x1 σ H locs ls hq h hl; exact hq.elim
    | succ n ih =>
      intro x1 σ H locs ls hq h hl
      have hq : wq_X9_task_20 Q (hh_lp1 (wq_X9_task_20 Q) n) x1 σ := hq
      unfold wq_X9_task_20 at hq
      refine lv_iload_n hx hb1 dX9_task_20 rfl (lv_at hl 1 rfl) ?_
      refine lv_aload_n hx hb1 dX9_task_21 rfl (lv_at hl 0 rfl) ?_
      refine hh_geti X h (q := 2) fm_0_2 rfl in_X9_task_X9 km_0 (by decide) (List.mem_of_getElem? (i := 2) rfl) rfl dX9_task_22 ?_
      refine lv_icmp_ge (tgt := 82) hx hb1 dX9_task_25 (by decide) (fun c1 => ?_) (fun c1 => ?_)
      · have hq := hq.1 c1
        refine lv_aload_n hx hb1 dX9_task_82 rfl (lv_at hl 0 rfl) ?_
        refine lv_iconst (v := (0 : Int32)) hx hb1 dX9_task_83 (by decide) ?_
        refine hh_puti X h (q := 7) hm_n fm_0_7 rfl in_X9_task_X9 km_0 tyX9 tyX9_ok nmX9 (by decide) (List.mem_of_getElem? (i := 11) rfl) rfl rfl rfl rfl dX9_task_84 (fun σ2 H locs eσ2 h => ?_)
        have hq := hq σ2 eσ2
        refine lv_aload_n hx hb1 dX9_task_87 rfl (lv_at hl 0 rfl) ?_
        refine lv_iconst (v := (0 : Int32)) hx hb1 dX9_task_88 (by decide) ?_
        refine hh_puti X h (q := 13) hm_n fm_0_13 rfl in_X9_task_X9 km_0 tyX9 tyX9_ok nmX9 (by decide) (List.mem_of_getElem? (i := 12) rfl) rfl rfl rfl rfl dX9_task_89 (fun σ3 H locs eσ3 h => ?_)
        have hq := hq σ3 eσ3
        refine lv_aload_n hx hb1 dX9_task_92 rfl (lv_at hl 0 rfl) ?_
        refine lv_iconst (v := (0 : Int32)) hx hb1 dX9_task_93 (by decide) ?_
        refine hh_puti X h (q := 0) hm_n fm_0_0 rfl in_X9_task_X9 km_0 tyX9 tyX9_ok nmX9 (by decide) (List.mem_of_getElem? (i := 13) rfl) rfl rfl rfl rfl dX9_task_94 (fun σ4 H locs eσ4 h => ?_)
        have hq := hq σ4 eσ4
        refine lv_aload_n hx hb1 dX9_task_97 rfl (lv_at hl 0 rfl) ?_
        refine lv_iconst (v := (0 : Int32)) hx hb1 dX9_task_98 (by decide) ?_
        refine hh_puti X h (q := 20) hm_n fm_0_20 rfl in_X9_task_X9 km_0 tyX9 tyX9_ok nmX9 (by decide) (List.mem_of_getElem? (i := 14) rfl) rfl rfl rfl rfl dX9_task_99 (fun σ5 H locs eσ5 h => ?_)
        have hq := hq σ5 eσ5
        refine lv_aload_n hx hb1 dX9_task_102 rfl (lv_at hl 0 rfl) ?_
        refine lv_iconst (v := (0 : Int32)) hx hb1 dX9_task_103 (by decide) ?_
        refine hh_puti X h (q := 21) hm_n fm_0_21 rfl in_X9_task_X9 km_0 tyX9 tyX9_ok nmX9 (by decide) (List.mem_of_getElem? (i := 15) rfl) rfl rfl rfl rfl dX9_task_104 (fun σ6 H locs eσ6 h => ?_)
        have hq := hq σ6 eσ6
        refine lv_aload_n hx hb1 dX9_task_107 rfl (lv_at hl 0 rfl) ?_
        refine lv_iconst (v := (0 : Int32)) hx hb1 dX9_task_108 (by decide) ?_
        refine hh_puti X h (q := 22) hm_n fm_0_22 rfl in_X9_task_X9 km_0 tyX9 tyX9_ok nmX9 (by decide) (List.mem_of_getElem? (i := 16) rfl) rfl rfl rfl rfl dX9_task_109 (fun σ7 H locs eσ7 h => ?_)
        have hq := hq σ7 eσ7
        refine lv_aload_n hx hb1 dX9_task_112 rfl (lv_at hl 0 rfl) ?_
        refine hh_geti X h (q := 2) fm_0_2 rfl in_X9_task_X9 km_0 (by decide) (List.mem_of_getElem? (i := 2) rfl) rfl dX9_task_113 ?_
        exact hh_iret X h hr hlocks hq dX9_task_116
      · have hq := hq.2 c1
        refine lv_aload_n hx hb1 dX9_task_28 rfl (lv_at hl 0 rfl) ?_
        refine hh_getr X h fm_0_3 in_X9_task_X9 km_0 (by decide) (List.mem_of_getElem? (i := 3) rfl) rfl dX9_task_29 ?_
        refine lv_iload_n hx hb1 dX9_task_32 rfl (lv_at hl 1 rfl) ?_
        refine lv_aload_n hx hb1 dX9_task_33 rfl (lv_at hl 0 rfl) ?_
        refine hh_getr X h fm_0_28 in_X9_task_X9 km_0 (by decide) (List.mem_of_getElem? (i := 4) rfl) rfl dX9_task_34 ?_
        refine lv_iload_n hx hb1 dX9_task_37 rfl (lv_at hl 1 rfl) ?_
        obtain ⟨h8, hq⟩ := hq
        refine hh_ild X h am_21 h8 dX9_task_38 ?_
        obtain ⟨h9, hq⟩ := hq
        refine hh_ist X h am_2 h9 dX9_task_39 (fun σ10 H locs eσ10 h => ?_)
        have hq := hq σ10 eσ10
        refine lv_aload_n hx hb1 dX9_task_40 rfl (lv_at hl 0 rfl) ?_
        refine hh_getr X h fm_0_4 in_X9_task_X9 km_0 (by decide) (List.mem_of_getElem? (i := 5) rfl) rfl dX9_task_41 ?_
        refine lv_iload_n hx hb1 dX9_task_44 rfl (lv_at hl 1 rfl) ?_
        refine lv_aload_n hx hb1 dX9_task_45 rfl (lv_at hl 0 rfl) ?_
        refine hh_getr X h fm_0_29 in_X9_task_X9 km_0 (by decide) (List.mem_of_getElem? (i := 6) rfl) rfl dX9_task_46 ?_
        refine lv_iload_n hx hb1 dX9_task_49 rfl (lv_at hl 1 rfl) ?_
        obtain ⟨h11, hq⟩ := hq
        refine hh_ild X h am_22 h11 dX9_task_50 ?_
        obtain ⟨h12, hq⟩ := hq
        refine hh_ist X h am_3 h12 dX9_task_51 (fun σ13 H locs eσ13 h => ?_)
        have hq := hq σ13 eσ13
        refine lv_aload_n hx hb1 dX9_task_52 rfl (lv_at hl 0 rfl) ?_
        refine hh_getr X h fm_0_5 in_X9_task_X9 km_0 (by decide) (List.mem_of_getElem? (i := 7) rfl) rfl dX9_task_53 ?_
        refine lv_iload_n hx hb1 dX9_task_56 rfl (lv_at hl 1 rfl) ?_
        refine lv_aload_n hx hb1 dX9_task_57 rfl (lv_at hl 0 rfl) ?_
        refine hh_getr X h fm_0_30 in_X9_task_X9 km_0 (by decide) (List.mem_of_getElem? (i := 8) rfl) rfl dX9_task_58 ?_
        refine lv_iload_n hx hb1 dX9_task_61 rfl (lv_at hl 1 rfl) ?_
        obtain ⟨h14, hq⟩ := hq
        refine hh_ild X h am_23 h14 dX9_task_62 ?_
        obtain ⟨h15, hq⟩ := hq
        refine hh_ist X h am_4 h15 dX9_task_63 (fun σ16 H locs eσ16 h => ?_)
        have hq := hq σ16 eσ16
        refine lv_aload_n hx hb1 dX9_task_64 rfl (lv_at hl 0 rfl) ?_
        refine hh_getr X h fm_0_6 in_X9_task_X9 km_0 (by decide) (List.mem_of_getElem? (i := 9) rfl) rfl dX9_task_65 ?_
        refine lv_iload_n hx hb1 dX9_task_68 rfl (lv_at hl 1 rfl) ?_
        refine lv_aload_n hx hb1 dX9_task_69 rfl (lv_at hl 0 rfl) ?_
        refine hh_getr X h fm_0_31 in_X9_task_X9 km_0 (by decide) (List.mem_of_getElem? (i := 10) rfl) rfl dX9_task_70 ?_
        refine lv_iload_n hx hb1 dX9_task_73 rfl (lv_at hl 1 rfl) ?_
        obtain ⟨h17, hq⟩ := hq
        refine hh_ild X h am_24 h17 dX9_task_74 ?_
        obtain ⟨h18, hq⟩ := hq
        refine hh_ist X h am_5 h18 dX9_task_75 (fun σ19 H locs eσ19 h => ?_)
        have hq := hq σ19 eσ19
        refine lv_iinc (v := (x1 + (1 : Int32))) (lv' := [(1, .int (x1 + (1 : Int32))), (0, .ref (ad 0))]) hx hb1 dX9_task_76 hl (k := 1) rfl rfl (by decide) rfl (fun ls hl => ?_)
        refine lv_goto (tgt := 20) hx hb1 dX9_task_79 (by decide) ?_
        exact ih (x1 + (1 : Int32)) σ19 _ _ ls hq h (lv_sub hl [1, 0] rfl)
  subst hargs
  refine hh_entry (vs := [.ref (ad 0)]) (Nat.le_of_ble_eq_true rfl) (fun ls hl => ?_)
  have hl : lv_has ls 2 [(0, .ref (ad 0))] := hl
  have hq : wp_X9_task σ Q := hq
  unfold wp_X9_task at hq
  refine lv_aload_n hx hb1 dX9_task_0 rfl (lv_at hl 0 rfl) ?_
  refine hh_kI h (va_runV (As := []) (rest := []) X.1 (ad_X9_faultOf (D := D) l J σ _ hq) (cwV 0 X.1.2.2.2.2 gX9_task_X9_faultOf rfl rfl rfl nd_X9_faultOf ⟨Nat.le_of_ble_eq_true rfl, Nat.le_of_ble_eq_true rfl⟩) (hh_preV X h fm_0_0 km_0 []) rfl rfl hl.1 rfl (lv_room (Nat.le_of_ble_eq_true rfl)) dX9_task_1 ⟨Nat.le_of_ble_eq_true rfl, Nat.le_of_ble_eq_true rfl⟩) (fun r20 σ21 H locs hq h => ?_)
  refine lv_if_lt (tgt := 10) hx hb1 dX9_task_4 (by decide) (fun c22 => ?_) (fun c22 => ?_)
  · have hq := hq.1 c22
    refine lv_aload_n hx hb1 dX9_task_10 rfl (lv_at hl 0 rfl) ?_
    refine lv_aload_n hx hb1 dX9_task_11 rfl (lv_at hl 0 rfl) ?_
    refine hh_geti X h (q := 27) fm_0_27 rfl in_X9_task_X9 km_0 (by decide) (List.mem_of_getElem? (i := 1) rfl) rfl dX9_task_12 ?_
    refine hh_puti X h (q := 2) hm_n fm_0_2 rfl in_X9_task_X9 km_0 tyX9 tyX9_ok nmX9 (by decide) (List.mem_of_getElem? (i := 2) rfl) rfl rfl rfl rfl dX9_task_15 (fun σ23 H locs eσ23 h => ?_)
    have hq := hq σ23 eσ23
    refine lv_iconst (v := (0 : Int32)) hx hb1 dX9_task_18 (by decide) ?_
    refine lv_istore_n (lv' := [(1, .int (0 : Int32)), (0, .ref (ad 0))]) hx hb1 dX9_task_19 rfl hl (by decide) rfl (fun ls hl => ?_)
    obtain ⟨n24, hq⟩ := hq
    exact lt_20 n24 (0 : Int32) σ23 _ _ ls hq h (lv_sub hl [1, 0] rfl)
  · have hq := hq.2 c22
    refine lv_bipush (v := (-5 : Int32)) hx hb1 dX9_task_7 (by decide) ?_
    exact hh_iret X h hr hlocks hq dX9_task_9
theorem nd_X9_step : yX9_step.cls = RX9 ∧ yX9_step.cls ≠ "java/lang/invoke/MethodHandle" ∧ yX9_step.cls ≠ "java/lang/invoke/VarHandle" ∧ (parseMethodDescriptor yX9_step.desc).map (fun d => d.parameters.length) = some 2 := by decide +kernel
abbrev rm_X9_step : Room := { frames := 1, cells := 0, slots := 0, locals := 22 }
def wp_X9_step (x1 : Int32) (x2 : Int32) (σ : hh_S) (Q : Int32 → hh_S → Prop) : Prop := (wp_X9_in x1 (0 : Int32) ((hh_I σ 2) - (1 : Int32)) σ (fun (r1 : Int32) (σ2 : hh_S) => ((¬ r1 = 0 → ((x2.toInt = 0 → (vp_in x1 8 ∧ (Q (hh_rA σ2 2 x1) σ2))) ∧ (x2.toInt = 1 → (vp_in x1 8 ∧ (Q (hh_rA σ2 3 x1) σ2))) ∧ (x2.toInt = 2 → (vp_in x1 8 ∧ (Q (hh_rA σ2 4 x1) σ2))) ∧ (x2.toInt = 3 → (vp_in x1 8 ∧ (Q (hh_rA σ2 5 x1) σ2))) ∧ ((x2.toInt < 0 ∨ 3 < x2.toInt) → (Q (-2 : Int32) σ2)))) ∧ (r1 = 0 → (Q (-1 : Int32) σ2)))))
theorem in_X9_step_X9 : ∀ w ∈ u_ws RX9 TX9 37, w ∈ wsX9_step := fun w h => List.mem_cons_of_mem _ (List.mem_append_right _ h)
set_option maxHeartbeats 4000000 in
set_option maxRecDepth 100000 in
theorem ad_X9_step {D : va_G} (l : Launch) {cy : Nat → ClassId} {ad : Nat → Nat} (J : hh_J hm_Y ad) (x1 : Int32) (x2 : Int32) (σ : hh_S) (Q : Int32 → hh_S → Prop) (hq : wp_X9_step x1 x2 σ Q) : Met l yX9_step wsX9_step rm_X9_step (va_Pc [.ref (ad 0), .int x1, .int x2] (hh_B D hh_cl hm_Y cy ad σ)) (va_Qi Q (hh_B D hh_cl hm_Y cy ad) (hh_A hm_Y ad)) 0 0 (hh_A hm_Y ad) := by
  refine Met.ofW (cc := cX9_step) (maxL := 3) (ret := (some .int)) (by decide) rfl ?_
  intro p e s m args below meth c s₁ B hml hv
  obtain ⟨hargs, hP0, hK0⟩ := hv
  have hr := B.returns
  have hlocks := B.notSynchronized
  have X : hh_X p m c cX9_step 3 s args wsX9_step RX9 D hh_cl hm_Y cy ad := ⟨⟨B.exec, B.bytes, hml, findClass_of_methodNamed B.named, atoms_spec (ws := wsX9_step) B.pre⟩, hK0, J⟩
  have hx := X.1.1
  have hb1 := X.1.2.1
  have h : hh_H D hh_cl hm_Y cy ad s.heap σ s.heap [] := ⟨hP0, va_S.rf⟩
  subst hargs
  refine hh_entry (vs := [.ref (ad 0), .int x1, .int x2]) (Nat.le_of_ble_eq_true rfl) (fun ls hl => ?_)
  have hl : lv_has ls 3 [(0, .ref (ad 0)), (1, .int x1), (2, .int x2)] := hl
  have hq : wp_X9_step x1 x2 σ Q := hq
  unfold wp_X9_step at hq
  refine lv_iload_n hx hb1 dX9_step_0 rfl (lv_at hl 1 rfl) ?_
  refine lv_iconst (v := (0 : Int32)) hx hb1 dX9_step_1 (by decide) ?_
  refine lv_aload_n hx hb1 dX9_step_2 rfl (lv_at hl 0 rfl) ?_
  refine hh_geti X h (q := 2) fm_0_2 rfl in_X9_step_X9 km_0 (by decide) (List.mem_of_getElem? (i := 1) rfl) rfl dX9_step_3 ?_
  refine lv_iconst (v := (1 : Int32)) hx hb1 dX9_step_6 (by decide) ?_
  refine lv_isub hx hb1 dX9_step_7 ?_
  refine hh_kI h (va_runS (As := [.int x1, .int (0 : Int32), .int ((hh_I σ 2) - (1 : Int32))]) (rest := []) X.1 (ad_X9_in (D := D) l J x1 (0 : Int32) ((hh_I σ 2) - (1 : Int32)) σ _ hq) (va_cwS 3 X.1.2.2.2.2 gX9_step_X9_in rfl rfl rfl nd_X9_in ⟨Nat.le_of_ble_eq_true rfl, Nat.le_of_ble_eq_true rfl⟩) (hh_preS X h [.int x1, .int (0 : Int32), .int ((hh_I σ 2) - (1 : Int32))]) rfl rfl hl.1 rfl (lv_room (Nat.le_of_ble_eq_true rfl)) dX9_step_8 ⟨Nat.le_of_ble_eq_true rfl, Nat.le_of_ble_eq_true rfl⟩) (fun r1 σ2 H locs hq h => ?_)
  refine lv_if_ne (tgt := 16) hx hb1 dX9_step_11 (by decide) (fun c3 => ?_) (fun c3 => ?_)
  · have hq := hq.1 c3
    refine lv_iload_n hx hb1 dX9_step_16 rfl (lv_at hl 2 rfl) ?_
    by_cases c4 : x2.toInt = 0
    · have hq := hq.1 c4
      refine hh_tabIn X (off := 31) (tgt := 48) 0 dX9_step_17 c4 (by decide) (by decide) (by decide) (by decide) ?_
      refine lv_aload_n hx hb1 dX9_step_48 rfl (lv_at hl 0 rfl) ?_
      refine hh_getr X h fm_0_3 in_X9_step_X9 km_0 (by decide) (List.mem_of_getElem? (i := 2) rfl) rfl dX9_step_49 ?_
      refine lv_iload_n hx hb1 dX9_step_52 rfl (lv_at hl 1 rfl) ?_
      obtain ⟨h5, hq⟩ := hq
      refine hh_ild X h am_2 h5 dX9_step_53 ?_
      exact hh_iret X h hr hlocks hq dX9_step_54
    have hq := hq.2
    by_cases c6 : x2.toInt = 1
    · have hq := hq.1 c6
      refine hh_tabIn X (off := 38) (tgt := 55) 1 dX9_step_17 c6 (by decide) (by decide) (by decide) (by decide) ?_
      refine lv_aload_n hx hb1 dX9_step_55 rfl (lv_at hl 0 rfl) ?_
      refine hh_getr X h fm_0_4 in_X9_step_X9 km_0 (by decide) (List.mem_of_getElem? (i := 3) rfl) rfl dX9_step_56 ?_
      refine lv_iload_n hx hb1 dX9_step_59 rfl (lv_at hl 1 rfl) ?_
      obtain ⟨h7, hq⟩ := hq
      refine hh_ild X h am_3 h7 dX9_step_60 ?_
      exact hh_iret X h hr hlocks hq dX9_step_61
    have hq := hq.2
    by_cases c8 : x2.toInt = 2
    · have hq := hq.1 c8
      refine hh_tabIn X (off := 45) (tgt := 62) 2 dX9_step_17 c8 (by decide) (by decide) (by decide) (by decide) ?_
      refine lv_aload_n hx hb1 dX9_step_62 rfl (lv_at hl 0 rfl) ?_
      refine hh_getr X h fm_0_5 in_X9_step_X9 km_0 (by decide) (List.mem_of_getElem? (i := 4) rfl) rfl dX9_step_63 ?_
      refine lv_iload_n hx hb1 dX9_step_66 rfl (lv_at hl 1 rfl) ?_
      obtain ⟨h9, hq⟩ := hq
      refine hh_ild X h am_4 h9 dX9_step_67 ?_
      exact hh_iret X h hr hlocks hq dX9_step_68
    have hq := hq.2
    by_cases c10 : x2.toInt = 3
    · have hq := hq.1 c10
      refine hh_tabIn X (off := 52) (tgt := 69) 3 dX9_step_17 c10 (by decide) (by decide) (by decide) (by decide) ?_
      refine lv_aload_n hx hb1 dX9_step_69 rfl (lv_at hl 0 rfl) ?_
      refine hh_getr X h fm_0_6 in_X9_step_X9 km_0 (by decide) (List.mem_of_getElem? (i := 5) rfl) rfl dX9_step_70 ?_
      refine lv_iload_n hx hb1 dX9_step_73 rfl (lv_at hl 1 rfl) ?_
      obtain ⟨h11, hq⟩ := hq
      refine hh_ild X h am_5 h11 dX9_step_74 ?_
      exact hh_iret X h hr hlocks hq dX9_step_75
    have hq := hq.2
    have c12 := hh_out3 c4 c6 c8 c10
    have hq := hq c12
    refine hh_tabOut X (tgt := 76) dX9_step_17 c12 (by decide) ?_
    refine lv_bipush (v := (-2 : Int32)) hx hb1 dX9_step_76 (by decide) ?_
    exact hh_iret X h hr hlocks hq dX9_step_78
  · have hq := hq.2 c3
    refine lv_iconst (v := (-1 : Int32)) hx hb1 dX9_step_14 (by decide) ?_
    exact hh_iret X h hr hlocks hq dX9_step_15
theorem nd_X9_itemOf : yX9_itemOf.cls = RX9 ∧ yX9_itemOf.cls ≠ "java/lang/invoke/MethodHandle" ∧ yX9_itemOf.cls ≠ "java/lang/invoke/VarHandle" ∧ (parseMethodDescriptor yX9_itemOf.desc).map (fun d => d.parameters.length) = some 2 := by decide +kernel
abbrev rm_X9_itemOf : Room := { frames := 0, cells := 0, slots := 0, locals := 0 }
def wq_X9_itemOf_2 (x1 : Int32) (x2 : Int32) (Q : Int32 → hh_S → Prop) (K2 : Int32 → hh_S → Prop) (x3 : Int32) (σ : hh_S) : Prop := (((hh_I σ 7) ≤ x3 → (Q (-6 : Int32) σ)) ∧ (¬ (hh_I σ 7) ≤ x3 → (vp_in x3 24 ∧ ((¬ (hh_rA σ 6 x3) = x1 → (K2 (x3 + (1 : Int32)) σ)) ∧ ((hh_rA σ 6 x3) = x1 → (vp_in x3 24 ∧ ((¬ (hh_rA σ 7 x3) = x2 → (K2 (x3 + (1 : Int32)) σ)) ∧ ((hh_rA σ 7 x3) = x2 → (Q x3 σ)))))))))
def wp_X9_itemOf (x1 : Int32) (x2 : Int32) (σ : hh_S) (Q : Int32 → hh_S → Prop) : Prop := (∃ n : Nat, hh_lp1 (wq_X9_itemOf_2 x1 x2 Q) n (0 : Int32) σ)
theorem in_X9_itemOf_X9 : ∀ w ∈ u_ws RX9 TX9 37, w ∈ wsX9_itemOf := fun w h => List.mem_cons_of_mem _ (List.mem_append_right _ h)
set_option maxHeartbeats 4000000 in
set_option maxRecDepth 100000 in
theorem ad_X9_itemOf {D : va_G} (l : Launch) {cy : Nat → ClassId} {ad : Nat → Nat} (J : hh_J hm_Y ad) (x1 : Int32) (x2 : Int32) (σ : hh_S) (Q : Int32 → hh_S → Prop) (hq : wp_X9_itemOf x1 x2 σ Q) : Met l yX9_itemOf wsX9_itemOf rm_X9_itemOf (va_Pc [.ref (ad 0), .int x1, .int x2] (hh_B D hh_cl hm_Y cy ad σ)) (va_Qi Q (hh_B D hh_cl hm_Y cy ad) (hh_A hm_Y ad)) 0 0 (hh_A hm_Y ad) := by
  refine Met.ofW (cc := cX9_itemOf) (maxL := 4) (ret := (some .int)) (by decide) rfl ?_
  intro p e s m args below meth c s₁ B hml hv
  obtain ⟨hargs, hP0, hK0⟩ := hv
  have hr := B.returns
  have hlocks := B.notSynchronized
  have X : hh_X p m c cX9_itemOf 4 s args wsX9_itemOf RX9 D hh_cl hm_Y cy ad := ⟨⟨B.exec, B.bytes, hml, findClass_of_methodNamed B.named, atoms_spec (ws := wsX9_itemOf) B.pre⟩, hK0, J⟩
  have hx := X.1.1
  have hb1 := X.1.2.1
  have h : hh_H D hh_cl hm_Y cy ad s.heap σ s.heap [] := ⟨hP0, va_S.rf⟩
  have lt_2 : ∀ (x1 : Int32) (x2 : Int32) (n : Nat) (x3 : Int32) (σ : hh_S) (H : Heap) (locs : List Loc) (ls : Array Slot), hh_lp1 (wq_X9_itemOf_2 x1 x2 Q) n x3 σ → hh_H D hh_cl hm_Y cy ad s.heap σ H locs → lv_has ls 4 [(0, .ref (ad 0)), (1, .int x1), (2, .int x2), (3, .int x3)] → W p l e (headSpec wsX9_itemOf rm_X9_itemOf).room s m args below meth c H locs 0 0 (MQ below (va_Qi Q (hh_B D hh_cl hm_Y cy ad) (hh_A hm_Y ad)) args s 0 0 (hh_A hm_Y ad)) (F0 m 2 ls []) := by
    intro x1 x2 n
    induction n with
    | zero => intro x3 σ H locs ls hq h hl; exact hq.elim
    | succ n ih =>
      intro x3 σ H locs ls hq h hl
      have hq : wq_X9_itemOf_2 x1 x2 Q (hh_lp1 (wq_X9_itemOf_2 x1 x2 Q) n) x3 σ := hq
      unfold wq_X9_itemOf_2 at hq
      refine lv_iload_n hx hb1 dX9_itemOf_2 rfl (lv_at hl 3 rfl) ?_
      refine lv_aload_n hx hb1 dX9_itemOf_3 rfl (lv_at hl 0 rfl) ?_
      refine hh_geti X h (q := 7) fm_0_7 rfl in_X9_itemOf_X9 km_0 (by decide) (List.mem_of_getElem? (i := 1) rfl) rfl dX9_itemOf_4 ?_
      refine lv_icmp_ge (tgt := 38) hx hb1 dX9_itemOf_7 (by decide) (fun c1 => ?_) (fun c1 => ?_)
      · have hq := hq.1 c1
        refine lv_bipush (v := (-6 : Int32)) hx hb1 dX9_itemOf_38 (by decide) ?_
        exact hh_iret X h hr hlocks hq dX9_itemOf_40
      · have hq := hq.2 c1
        refine lv_aload_n hx hb1 dX9_itemOf_10 rfl (lv_at hl 0 rfl) ?_
        refine hh_getr X h fm_0_8 in_X9_itemOf_X9 km_0 (by decide) (List.mem_of_getElem? (i := 2) rfl) rfl dX9_itemOf_11 ?_
        refine lv_iload_n hx hb1 dX9_itemOf_14 rfl (lv_at hl 3 rfl) ?_
        obtain ⟨h2, hq⟩ := hq
        refine hh_ild X h am_6 h2 dX9_itemOf_15 ?_
        refine lv_iload_n hx hb1 dX9_itemOf_16 rfl (lv_at hl 1 rfl) ?_
        refine lv_icmp_ne (tgt := 32) hx hb1 dX9_itemOf_17 (by decide) (fun c3 => ?_) (fun c3 => ?_)
        · have hq := hq.1 c3
          refine lv_iinc (v := (x3 + (1 : Int32))) (lv' := [(3, .int (x3 + (1 : Int32))), (0, .ref (ad 0)), (1, .int x1), (2, .int x2)]) hx hb1 dX9_itemOf_32 hl (k := 3) rfl rfl (by decide) rfl (fun ls hl => ?_)
          refine lv_goto (tgt := 2) hx hb1 dX9_itemOf_35 (by decide) ?_
          exact ih (x3 + (1 : Int32)) σ _ _ ls hq h (lv_sub hl [1, 2, 3, 0] rfl)
        · have hq := hq.2 c3
          refine lv_aload_n hx hb1 dX9_itemOf_20 rfl (lv_at hl 0 rfl) ?_
          refine hh_getr X h fm_0_9 in_X9_itemOf_X9 km_0 (by decide) (List.mem_of_getElem? (i := 3) rfl) rfl dX9_itemOf_21 ?_
          refine lv_iload_n hx hb1 dX9_itemOf_24 rfl (lv_at hl 3 rfl) ?_
          obtain ⟨h4, hq⟩ := hq
          refine hh_ild X h am_7 h4 dX9_itemOf_25 ?_
          refine lv_iload_n hx hb1 dX9_itemOf_26 rfl (lv_at hl 2 rfl) ?_
          refine lv_icmp_ne (tgt := 32) hx hb1 dX9_itemOf_27 (by decide) (fun c5 => ?_) (fun c5 => ?_)
          · have hq := hq.1 c5
            refine lv_iinc (v := (x3 + (1 : Int32))) (lv' := [(3, .int (x3 + (1 : Int32))), (0, .ref (ad 0)), (1, .int x1), (2, .int x2)]) hx hb1 dX9_itemOf_32 hl (k := 3) rfl rfl (by decide) rfl (fun ls hl => ?_)
            refine lv_goto (tgt := 2) hx hb1 dX9_itemOf_35 (by decide) ?_
            exact ih (x3 + (1 : Int32)) σ _ _ ls hq h (lv_sub hl [1, 2, 3, 0] rfl)
          · have hq := hq.2 c5
            refine lv_iload_n hx hb1 dX9_itemOf_30 rfl (lv_at hl 3 rfl) ?_
            exact hh_iret X h hr hlocks hq dX9_itemOf_31
  subst hargs
  refine hh_entry (vs := [.ref (ad 0), .int x1, .int x2]) (Nat.le_of_ble_eq_true rfl) (fun ls hl => ?_)
  have hl : lv_has ls 4 [(0, .ref (ad 0)), (1, .int x1), (2, .int x2)] := hl
  have hq : wp_X9_itemOf x1 x2 σ Q := hq
  unfold wp_X9_itemOf at hq
  refine lv_iconst (v := (0 : Int32)) hx hb1 dX9_itemOf_0 (by decide) ?_
  refine lv_istore_n (lv' := [(3, .int (0 : Int32)), (0, .ref (ad 0)), (1, .int x1), (2, .int x2)]) hx hb1 dX9_itemOf_1 rfl hl (by decide) rfl (fun ls hl => ?_)
  obtain ⟨n6, hq⟩ := hq
  exact lt_2 x1 x2 n6 (0 : Int32) σ _ _ ls hq h (lv_sub hl [1, 2, 3, 0] rfl)
theorem nd_X9_item : yX9_item.cls = RX9 ∧ yX9_item.cls ≠ "java/lang/invoke/MethodHandle" ∧ yX9_item.cls ≠ "java/lang/invoke/VarHandle" ∧ (parseMethodDescriptor yX9_item.desc).map (fun d => d.parameters.length) = some 2 := by decide +kernel
abbrev rm_X9_item : Room := { frames := 1, cells := 0, slots := 0, locals := 23 }
def wq_X9_item_107 (Q : Int32 → hh_S → Prop) (K107 : Int32 → hh_S → Prop) (x3 : Int32) (σ : hh_S) : Prop := (((10 : Int32) ≤ x3 → (∀ σ2 : hh_S, σ2 = hh_uI σ 7 ((hh_I σ 7) + (1 : Int32)) → (Q ((hh_I σ2 7) - (1 : Int32)) σ2))) ∧ (¬ (10 : Int32) ≤ x3 → (vp_in (((24 : Int32) * x3) + (hh_I σ 7)) 240 ∧ ∀ σ4 : hh_S, σ4 = hh_sA σ 13 (((24 : Int32) * x3) + (hh_I σ 7)) (0 : Int32) → (K107 (x3 + (1 : Int32)) σ4))))
def wp_X9_item (x1 : Int32) (x2 : Int32) (σ : hh_S) (Q : Int32 → hh_S → Prop) : Prop := (wp_X9_in x1 (0 : Int32) ((hh_I σ 2) - (1 : Int32)) σ (fun (r5 : Int32) (σ6 : hh_S) => ((¬ r5 = 0 → (wp_X9_in x2 (0 : Int32) (9 : Int32) σ6 (fun (r8 : Int32) (σ9 : hh_S) => ((¬ r8 = 0 → ((¬ (hh_I σ9 7) = (24 : Int32) → (wp_X9_itemOf x1 x2 σ9 (fun (r12 : Int32) (σ13 : hh_S) => ((r12 < 0 → (vp_in (hh_I σ13 7) 24 ∧ ∀ σ16 : hh_S, σ16 = hh_sA σ13 6 (hh_I σ13 7) x1 → (vp_in (hh_I σ16 7) 24 ∧ ∀ σ18 : hh_S, σ18 = hh_sA σ16 7 (hh_I σ16 7) x2 → (vp_in (hh_I σ18 7) 24 ∧ ∀ σ20 : hh_S, σ20 = hh_sA σ18 8 (hh_I σ18 7) (-6 : Int32) → (vp_in (hh_I σ20 7) 24 ∧ ∀ σ22 : hh_S, σ22 = hh_sA σ20 9 (hh_I σ20 7) (-6 : Int32) → (vp_in (hh_I σ22 7) 24 ∧ ∀ σ24 : hh_S, σ24 = hh_sA σ22 10 (hh_I σ22 7) (0 : Int32) → (∃ n : Nat, hh_lp1 (wq_X9_item_107 Q) n (0 : Int32) σ24))))))) ∧ (¬ r12 < 0 → (Q (-5 : Int32) σ13)))))) ∧ ((hh_I σ9 7) = (24 : Int32) → (Q (-4 : Int32) σ9)))) ∧ (r8 = 0 → (Q (-2 : Int32) σ9)))))) ∧ (r5 = 0 → (Q (-1 : Int32) σ6)))))
theorem in_X9_item_X9 : ∀ w ∈ u_ws RX9 TX9 37, w ∈ wsX9_item := fun w h => List.mem_cons_of_mem _ (List.mem_append_right _ h)
set_option maxHeartbeats 4000000 in
set_option maxRecDepth 100000 in
theorem ad_X9_item {D : va_G} (l : Launch) {cy : Nat → ClassId} {ad : Nat → Nat} (J : hh_J hm_Y ad) (x1 : Int32) (x2 : Int32) (σ : hh_S) (Q : Int32 → hh_S → Prop) (hq : wp_X9_item x1 x2 σ Q) : Met l yX9_item wsX9_item rm_X9_item (va_Pc [.ref (ad 0), .int x1, .int x2] (hh_B D hh_cl hm_Y cy ad σ)) (va_Qi Q (hh_B D hh_cl hm_Y cy ad) (hh_A hm_Y ad)) 0 0 (hh_A hm_Y ad) := by
  refine Met.ofW (cc := cX9_item) (maxL := 4) (ret := (some .int)) (by decide) rfl ?_
  intro p e s m args below meth c s₁ B hml hv
  obtain ⟨hargs, hP0, hK0⟩ := hv
  have hr := B.returns
  have hlocks := B.notSynchronized
  have X : hh_X p m c cX9_item 4 s args wsX9_item RX9 D hh_cl hm_Y cy ad := ⟨⟨B.exec, B.bytes, hml, findClass_of_methodNamed B.named, atoms_spec (ws := wsX9_item) B.pre⟩, hK0, J⟩
  have hx := X.1.1
  have hb1 := X.1.2.1
  have h : hh_H D hh_cl hm_Y cy ad s.heap σ s.heap [] := ⟨hP0, va_S.rf⟩
  have lt_107 : ∀ (n : Nat) (x3 : Int32) (σ : hh_S) (H : Heap) (locs : List Loc) (ls : Array Slot), hh_lp1 (wq_X9_item_107 Q) n x3 σ → hh_H D hh_cl hm_Y cy ad s.heap σ H locs → lv_has ls 4 [(0, .ref (ad 0)), (3, .int x3)] → W p l e (headSpec wsX9_item rm_X9_item).room s m args below meth c H locs 0 0 (MQ below (va_Qi Q (hh_B D hh_cl hm_Y cy ad) (hh_A hm_Y ad)) args s 0 0 (hh_A hm_Y ad)) (F0 m 107 ls []) := by
    intro n
    induction n with
    | zero => intro x3 σ H locs ls hq h hl; exact hq.elim
    | succ n ih =>
      intro x3 σ H locs ls hq h hl
      have hq : wq_X9_item_107 Q (hh_lp1 (wq_X9_item_107 Q) n) x3 σ := hq
      unfold wq_X9_item_107 at hq
      refine lv_iload_n hx hb1 dX9_item_107 rfl (lv_at hl 1 rfl) ?_
      refine lv_bipush (v := (10 : Int32)) hx hb1 dX9_item_108 (by decide) ?_
      refine lv_icmp_ge (tgt := 134) hx hb1 dX9_item_110 (by decide) (fun c1 => ?_) (fun c1 => ?_)
      · have hq := hq.1 c1
        refine lv_aload_n hx hb1 dX9_item_134 rfl (lv_at hl 0 rfl) ?_
        refine lv_dup hx hb1 dX9_item_135 rfl ?_
        refine hh_geti X h (q := 7) fm_0_7 rfl in_X9_item_X9 km_0 (by decide) (List.mem_of_getElem? (i := 2) rfl) rfl dX9_item_136 ?_
        refine lv_iconst (v := (1 : Int32)) hx hb1 dX9_item_139 (by decide) ?_
        refine lv_iadd hx hb1 dX9_item_140 ?_
        refine hh_puti X h (q := 7) hm_n fm_0_7 rfl in_X9_item_X9 km_0 tyX9 tyX9_ok nmX9 (by decide) (List.mem_of_getElem? (i := 2) rfl) rfl rfl rfl rfl dX9_item_141 (fun σ2 H locs eσ2 h => ?_)
        have hq := hq σ2 eσ2
        refine lv_aload_n hx hb1 dX9_item_144 rfl (lv_at hl 0 rfl) ?_
        refine hh_geti X h (q := 7) fm_0_7 rfl in_X9_item_X9 km_0 (by decide) (List.mem_of_getElem? (i := 2) rfl) rfl dX9_item_145 ?_
        refine lv_iconst (v := (1 : Int32)) hx hb1 dX9_item_148 (by decide) ?_
        refine lv_isub hx hb1 dX9_item_149 ?_
        exact hh_iret X h hr hlocks hq dX9_item_150
      · have hq := hq.2 c1
        refine lv_aload_n hx hb1 dX9_item_113 rfl (lv_at hl 0 rfl) ?_
        refine hh_getr X h fm_0_16 in_X9_item_X9 km_0 (by decide) (List.mem_of_getElem? (i := 8) rfl) rfl dX9_item_114 ?_
        refine lv_bipush (v := (24 : Int32)) hx hb1 dX9_item_117 (by decide) ?_
        refine lv_iload_n hx hb1 dX9_item_119 rfl (lv_at hl 1 rfl) ?_
        refine lv_imul hx hb1 dX9_item_120 ?_
        refine lv_aload_n hx hb1 dX9_item_121 rfl (lv_at hl 0 rfl) ?_
        refine hh_geti X h (q := 7) fm_0_7 rfl in_X9_item_X9 km_0 (by decide) (List.mem_of_getElem? (i := 2) rfl) rfl dX9_item_122 ?_
        refine lv_iadd hx hb1 dX9_item_125 ?_
        refine lv_iconst (v := (0 : Int32)) hx hb1 dX9_item_126 (by decide) ?_
        obtain ⟨h3, hq⟩ := hq
        refine hh_ist X h am_13 h3 dX9_item_127 (fun σ4 H locs eσ4 h => ?_)
        have hq := hq σ4 eσ4
        refine lv_iinc (v := (x3 + (1 : Int32))) (lv' := [(3, .int (x3 + (1 : Int32))), (0, .ref (ad 0))]) hx hb1 dX9_item_128 hl (k := 1) rfl rfl (by decide) rfl (fun ls hl => ?_)
        refine lv_goto (tgt := 107) hx hb1 dX9_item_131 (by decide) ?_
        exact ih (x3 + (1 : Int32)) σ4 _ _ ls hq h (lv_sub hl [1, 0] rfl)
  subst hargs
  refine hh_entry (vs := [.ref (ad 0), .int x1, .int x2]) (Nat.le_of_ble_eq_true rfl) (fun ls hl => ?_)
  have hl : lv_has ls 4 [(0, .ref (ad 0)), (1, .int x1), (2, .int x2)] := hl
  have hq : wp_X9_item x1 x2 σ Q := hq
  unfold wp_X9_item at hq
  refine lv_iload_n hx hb1 dX9_item_0 rfl (lv_at hl 1 rfl) ?_
  refine lv_iconst (v := (0 : Int32)) hx hb1 dX9_item_1 (by decide) ?_
  refine lv_aload_n hx hb1 dX9_item_2 rfl (lv_at hl 0 rfl) ?_
  refine hh_geti X h (q := 2) fm_0_2 rfl in_X9_item_X9 km_0 (by decide) (List.mem_of_getElem? (i := 1) rfl) rfl dX9_item_3 ?_
  refine lv_iconst (v := (1 : Int32)) hx hb1 dX9_item_6 (by decide) ?_
  refine lv_isub hx hb1 dX9_item_7 ?_
  refine hh_kI h (va_runS (As := [.int x1, .int (0 : Int32), .int ((hh_I σ 2) - (1 : Int32))]) (rest := []) X.1 (ad_X9_in (D := D) l J x1 (0 : Int32) ((hh_I σ 2) - (1 : Int32)) σ _ hq) (va_cwS 3 X.1.2.2.2.2 gX9_item_X9_in rfl rfl rfl nd_X9_in ⟨Nat.le_of_ble_eq_true rfl, Nat.le_of_ble_eq_true rfl⟩) (hh_preS X h [.int x1, .int (0 : Int32), .int ((hh_I σ 2) - (1 : Int32))]) rfl rfl hl.1 rfl (lv_room (Nat.le_of_ble_eq_true rfl)) dX9_item_8 ⟨Nat.le_of_ble_eq_true rfl, Nat.le_of_ble_eq_true rfl⟩) (fun r5 σ6 H locs hq h => ?_)
  refine lv_if_ne (tgt := 16) hx hb1 dX9_item_11 (by decide) (fun c7 => ?_) (fun c7 => ?_)
  · have hq := hq.1 c7
    refine lv_iload_n hx hb1 dX9_item_16 rfl (lv_at hl 2 rfl) ?_
    refine lv_iconst (v := (0 : Int32)) hx hb1 dX9_item_17 (by decide) ?_
    refine lv_bipush (v := (9 : Int32)) hx hb1 dX9_item_18 (by decide) ?_
    refine hh_kI h (va_runS (As := [.int x2, .int (0 : Int32), .int (9 : Int32)]) (rest := []) X.1 (ad_X9_in (D := D) l J x2 (0 : Int32) (9 : Int32) σ6 _ hq) (va_cwS 3 X.1.2.2.2.2 gX9_item_X9_in rfl rfl rfl nd_X9_in ⟨Nat.le_of_ble_eq_true rfl, Nat.le_of_ble_eq_true rfl⟩) (hh_preS X h [.int x2, .int (0 : Int32), .int (9 : Int32)]) rfl rfl hl.1 rfl (lv_room (Nat.le_of_ble_eq_true rfl)) dX9_item_20 ⟨Nat.le_of_ble_eq_true rfl, Nat.le_of_ble_eq_true rfl⟩) (fun r8 σ9 H locs hq h => ?_)
    refine lv_if_ne (tgt := 29) hx hb1 dX9_item_23 (by decide) (fun c10 => ?_) (fun c10 => ?_)
    · have hq := hq.1 c10
      refine lv_aload_n hx hb1 dX9_item_29 rfl (lv_at hl 0 rfl) ?_
      refine hh_geti X h (q := 7) fm_0_7 rfl in_X9_item_X9 km_0 (by decide) (List.mem_of_getElem? (i := 2) rfl) rfl dX9_item_30 ?_
      refine lv_bipush (v := (24 : Int32)) hx hb1 dX9_item_33 (by decide) ?_
      refine lv_icmp_ne (tgt := 41) hx hb1 dX9_item_35 (by decide) (fun c11 => ?_) (fun c11 => ?_)
      · have hq := hq.1 c11
        refine lv_aload_n hx hb1 dX9_item_41 rfl (lv_at hl 0 rfl) ?_
        refine lv_iload_n hx hb1 dX9_item_42 rfl (lv_at hl 1 rfl) ?_
        refine lv_iload_n hx hb1 dX9_item_43 rfl (lv_at hl 2 rfl) ?_
        refine hh_kI h (va_runV (As := [.int x1, .int x2]) (rest := []) X.1 (ad_X9_itemOf (D := D) l J x1 x2 σ9 _ hq) (cwV 2 X.1.2.2.2.2 gX9_item_X9_itemOf rfl rfl rfl nd_X9_itemOf ⟨Nat.le_of_ble_eq_true rfl, Nat.le_of_ble_eq_true rfl⟩) (hh_preV X h fm_0_0 km_0 [.int x1, .int x2]) rfl rfl hl.1 rfl (lv_room (Nat.le_of_ble_eq_true rfl)) dX9_item_44 ⟨Nat.le_of_ble_eq_true rfl, Nat.le_of_ble_eq_true rfl⟩) (fun r12 σ13 H locs hq h => ?_)
        refine lv_if_lt (tgt := 53) hx hb1 dX9_item_47 (by decide) (fun c14 => ?_) (fun c14 => ?_)
        · have hq := hq.1 c14
          refine lv_aload_n hx hb1 dX9_item_53 rfl (lv_at hl 0 rfl) ?_
          refine hh_getr X h fm_0_8 in_X9_item_X9 km_0 (by decide) (List.mem_of_getElem? (i := 3) rfl) rfl dX9_item_54 ?_
          refine lv_aload_n hx hb1 dX9_item_57 rfl (lv_at hl 0 rfl) ?_
          refine hh_geti X h (q := 7) fm_0_7 rfl in_X9_item_X9 km_0 (by decide) (List.mem_of_getElem? (i := 2) rfl) rfl dX9_item_58 ?_
          refine lv_iload_n hx hb1 dX9_item_61 rfl (lv_at hl 1 rfl) ?_
          obtain ⟨h15, hq⟩ := hq
          refine hh_ist X h am_6 h15 dX9_item_62 (fun σ16 H locs eσ16 h => ?_)
          have hq := hq σ16 eσ16
          refine lv_aload_n hx hb1 dX9_item_63 rfl (lv_at hl 0 rfl) ?_
          refine hh_getr X h fm_0_9 in_X9_item_X9 km_0 (by decide) (List.mem_of_getElem? (i := 4) rfl) rfl dX9_item_64 ?_
          refine lv_aload_n hx hb1 dX9_item_67 rfl (lv_at hl 0 rfl) ?_
          refine hh_geti X h (q := 7) fm_0_7 rfl in_X9_item_X9 km_0 (by decide) (List.mem_of_getElem? (i := 2) rfl) rfl dX9_item_68 ?_
          refine lv_iload_n hx hb1 dX9_item_71 rfl (lv_at hl 2 rfl) ?_
          obtain ⟨h17, hq⟩ := hq
          refine hh_ist X h am_7 h17 dX9_item_72 (fun σ18 H locs eσ18 h => ?_)
          have hq := hq σ18 eσ18
          refine lv_aload_n hx hb1 dX9_item_73 rfl (lv_at hl 0 rfl) ?_
          refine hh_getr X h fm_0_10 in_X9_item_X9 km_0 (by decide) (List.mem_of_getElem? (i := 5) rfl) rfl dX9_item_74 ?_
          refine lv_aload_n hx hb1 dX9_item_77 rfl (lv_at hl 0 rfl) ?_
          refine hh_geti X h (q := 7) fm_0_7 rfl in_X9_item_X9 km_0 (by decide) (List.mem_of_getElem? (i := 2) rfl) rfl dX9_item_78 ?_
          refine lv_bipush (v := (-6 : Int32)) hx hb1 dX9_item_81 (by decide) ?_
          obtain ⟨h19, hq⟩ := hq
          refine hh_ist X h am_8 h19 dX9_item_83 (fun σ20 H locs eσ20 h => ?_)
          have hq := hq σ20 eσ20
          refine lv_aload_n hx hb1 dX9_item_84 rfl (lv_at hl 0 rfl) ?_
          refine hh_getr X h fm_0_11 in_X9_item_X9 km_0 (by decide) (List.mem_of_getElem? (i := 6) rfl) rfl dX9_item_85 ?_
          refine lv_aload_n hx hb1 dX9_item_88 rfl (lv_at hl 0 rfl) ?_
          refine hh_geti X h (q := 7) fm_0_7 rfl in_X9_item_X9 km_0 (by decide) (List.mem_of_getElem? (i := 2) rfl) rfl dX9_item_89 ?_
          refine lv_bipush (v := (-6 : Int32)) hx hb1 dX9_item_92 (by decide) ?_
          obtain ⟨h21, hq⟩ := hq
          refine hh_ist X h am_9 h21 dX9_item_94 (fun σ22 H locs eσ22 h => ?_)
          have hq := hq σ22 eσ22
          refine lv_aload_n hx hb1 dX9_item_95 rfl (lv_at hl 0 rfl) ?_
          refine hh_getr X h fm_0_12 in_X9_item_X9 km_0 (by decide) (List.mem_of_getElem? (i := 7) rfl) rfl dX9_item_96 ?_
          refine lv_aload_n hx hb1 dX9_item_99 rfl (lv_at hl 0 rfl) ?_
          refine hh_geti X h (q := 7) fm_0_7 rfl in_X9_item_X9 km_0 (by decide) (List.mem_of_getElem? (i := 2) rfl) rfl dX9_item_100 ?_
          refine lv_iconst (v := (0 : Int32)) hx hb1 dX9_item_103 (by decide) ?_
          obtain ⟨h23, hq⟩ := hq
          refine hh_ist X h am_10 h23 dX9_item_104 (fun σ24 H locs eσ24 h => ?_)
          have hq := hq σ24 eσ24
          refine lv_iconst (v := (0 : Int32)) hx hb1 dX9_item_105 (by decide) ?_
          refine lv_istore_n (lv' := [(3, .int (0 : Int32)), (0, .ref (ad 0)), (1, .int x1), (2, .int x2)]) hx hb1 dX9_item_106 rfl hl (by decide) rfl (fun ls hl => ?_)
          obtain ⟨n25, hq⟩ := hq
          exact lt_107 n25 (0 : Int32) σ24 _ _ ls hq h (lv_sub hl [1, 0] rfl)
        · have hq := hq.2 c14
          refine lv_bipush (v := (-5 : Int32)) hx hb1 dX9_item_50 (by decide) ?_
          exact hh_iret X h hr hlocks hq dX9_item_52
      · have hq := hq.2 c11
        refine lv_bipush (v := (-4 : Int32)) hx hb1 dX9_item_38 (by decide) ?_
        exact hh_iret X h hr hlocks hq dX9_item_40
    · have hq := hq.2 c10
      refine lv_bipush (v := (-2 : Int32)) hx hb1 dX9_item_26 (by decide) ?_
      exact hh_iret X h hr hlocks hq dX9_item_28
  · have hq := hq.2 c7
    refine lv_iconst (v := (-1 : Int32)) hx hb1 dX9_item_14 (by decide) ?_
    exact hh_iret X h hr hlocks hq dX9_item_15
theorem nd_X9_isItem : yX9_isItem.cls = RX9 ∧ yX9_isItem.cls ≠ "java/lang/invoke/MethodHandle" ∧ yX9_isItem.cls ≠ "java/lang/invoke/VarHandle" ∧ (parseMethodDescriptor yX9_isItem.desc).map (fun d => d.parameters.length) = some 1 := by decide +kernel
abbrev rm_X9_isItem : Room := { frames := 1, cells := 0, slots := 0, locals := 22 }
def wp_X9_isItem (x1 : Int32) (σ : hh_S) (Q : Int32 → hh_S → Prop) : Prop := (wp_X9_in x1 (0 : Int32) ((hh_I σ 7) - (1 : Int32)) σ (fun (r1 : Int32) (σ2 : hh_S) => ((narrow .boolean (.int r1) = .int r1) ∧ Q r1 σ2)))
theorem in_X9_isItem_X9 : ∀ w ∈ u_ws RX9 TX9 37, w ∈ wsX9_isItem := fun w h => List.mem_cons_of_mem _ (List.mem_append_right _ h)
set_option maxHeartbeats 4000000 in
set_option maxRecDepth 100000 in
theorem ad_X9_isItem {D : va_G} (l : Launch) {cy : Nat → ClassId} {ad : Nat → Nat} (J : hh_J hm_Y ad) (x1 : Int32) (σ : hh_S) (Q : Int32 → hh_S → Prop) (hq : wp_X9_isItem x1 σ Q) : Met l yX9_isItem wsX9_isItem rm_X9_isItem (va_Pc [.ref (ad 0), .int x1] (hh_B D hh_cl hm_Y cy ad σ)) (va_Qi Q (hh_B D hh_cl hm_Y cy ad) (hh_A hm_Y ad)) 0 0 (hh_A hm_Y ad) := by
  refine Met.ofW (cc := cX9_isItem) (maxL := 2) (ret := (some .boolean)) (by decide) rfl ?_
  intro p e s m args below meth c s₁ B hml hv
  obtain ⟨hargs, hP0, hK0⟩ := hv
  have hr := B.returns
  have hlocks := B.notSynchronized
  have X : hh_X p m c cX9_isItem 2 s args wsX9_isItem RX9 D hh_cl hm_Y cy ad := ⟨⟨B.exec, B.bytes, hml, findClass_of_methodNamed B.named, atoms_spec (ws := wsX9_isItem) B.pre⟩, hK0, J⟩
  have hx := X.1.1
  have hb1 := X.1.2.1
  have h : hh_H D hh_cl hm_Y cy ad s.heap σ s.heap [] := ⟨hP0, va_S.rf⟩
  subst hargs
  refine hh_entry (vs := [.ref (ad 0), .int x1]) (Nat.le_of_ble_eq_true rfl) (fun ls hl => ?_)
  have hl : lv_has ls 2 [(0, .ref (ad 0)), (1, .int x1)] := hl
  have hq : wp_X9_isItem x1 σ Q := hq
  unfold wp_X9_isItem at hq
  refine lv_iload_n hx hb1 dX9_isItem_0 rfl (lv_at hl 1 rfl) ?_
  refine lv_iconst (v := (0 : Int32)) hx hb1 dX9_isItem_1 (by decide) ?_
  refine lv_aload_n hx hb1 dX9_isItem_2 rfl (lv_at hl 0 rfl) ?_
  refine hh_geti X h (q := 7) fm_0_7 rfl in_X9_isItem_X9 km_0 (by decide) (List.mem_of_getElem? (i := 1) rfl) rfl dX9_isItem_3 ?_
  refine lv_iconst (v := (1 : Int32)) hx hb1 dX9_isItem_6 (by decide) ?_
  refine lv_isub hx hb1 dX9_isItem_7 ?_
  refine hh_kI h (va_runS (As := [.int x1, .int (0 : Int32), .int ((hh_I σ 7) - (1 : Int32))]) (rest := []) X.1 (ad_X9_in (D := D) l J x1 (0 : Int32) ((hh_I σ 7) - (1 : Int32)) σ _ hq) (va_cwS 3 X.1.2.2.2.2 gX9_isItem_X9_in rfl rfl rfl nd_X9_in ⟨Nat.le_of_ble_eq_true rfl, Nat.le_of_ble_eq_true rfl⟩) (hh_preS X h [.int x1, .int (0 : Int32), .int ((hh_I σ 7) - (1 : Int32))]) rfl rfl hl.1 rfl (lv_room (Nat.le_of_ble_eq_true rfl)) dX9_isItem_8 ⟨Nat.le_of_ble_eq_true rfl, Nat.le_of_ble_eq_true rfl⟩) (fun r1 σ2 H locs hq h => ?_)
  obtain ⟨h3, hq⟩ := hq
  exact hh_zret X h hr hlocks h3 hq dX9_isItem_11
theorem nd_X9_isHand : yX9_isHand.cls = RX9 ∧ yX9_isHand.cls ≠ "java/lang/invoke/MethodHandle" ∧ yX9_isHand.cls ≠ "java/lang/invoke/VarHandle" ∧ (parseMethodDescriptor yX9_isHand.desc).map (fun d => d.parameters.length) = some 1 := by decide +kernel
abbrev rm_X9_isHand : Room := { frames := 1, cells := 0, slots := 0, locals := 22 }
def wp_X9_isHand (x1 : Int32) (σ : hh_S) (Q : Int32 → hh_S → Prop) : Prop := (wp_X9_in x1 (0 : Int32) ((hh_I σ 13) - (1 : Int32)) σ (fun (r1 : Int32) (σ2 : hh_S) => ((narrow .boolean (.int r1) = .int r1) ∧ Q r1 σ2)))
theorem in_X9_isHand_X9 : ∀ w ∈ u_ws RX9 TX9 37, w ∈ wsX9_isHand := fun w h => List.mem_cons_of_mem _ (List.mem_append_right _ h)
set_option maxHeartbeats 4000000 in
set_option maxRecDepth 100000 in
theorem ad_X9_isHand {D : va_G} (l : Launch) {cy : Nat → ClassId} {ad : Nat → Nat} (J : hh_J hm_Y ad) (x1 : Int32) (σ : hh_S) (Q : Int32 → hh_S → Prop) (hq : wp_X9_isHand x1 σ Q) : Met l yX9_isHand wsX9_isHand rm_X9_isHand (va_Pc [.ref (ad 0), .int x1] (hh_B D hh_cl hm_Y cy ad σ)) (va_Qi Q (hh_B D hh_cl hm_Y cy ad) (hh_A hm_Y ad)) 0 0 (hh_A hm_Y ad) := by
  refine Met.ofW (cc := cX9_isHand) (maxL := 2) (ret := (some .boolean)) (by decide) rfl ?_
  intro p e s m args below meth c s₁ B hml hv
  obtain ⟨hargs, hP0, hK0⟩ := hv
  have hr := B.returns
  have hlocks := B.notSynchronized
  have X : hh_X p m c cX9_isHand 2 s args wsX9_isHand RX9 D hh_cl hm_Y cy ad := ⟨⟨B.exec, B.bytes, hml, findClass_of_methodNamed B.named, atoms_spec (ws := wsX9_isHand) B.pre⟩, hK0, J⟩
  have hx := X.1.1
  have hb1 := X.1.2.1
  have h : hh_H D hh_cl hm_Y cy ad s.heap σ s.heap [] := ⟨hP0, va_S.rf⟩
  subst hargs
  refine hh_entry (vs := [.ref (ad 0), .int x1]) (Nat.le_of_ble_eq_true rfl) (fun ls hl => ?_)
  have hl : lv_has ls 2 [(0, .ref (ad 0)), (1, .int x1)] := hl
  have hq : wp_X9_isHand x1 σ Q := hq
  unfold wp_X9_isHand at hq
  refine lv_iload_n hx hb1 dX9_isHand_0 rfl (lv_at hl 1 rfl) ?_
  refine lv_iconst (v := (0 : Int32)) hx hb1 dX9_isHand_1 (by decide) ?_
  refine lv_aload_n hx hb1 dX9_isHand_2 rfl (lv_at hl 0 rfl) ?_
  refine hh_geti X h (q := 13) fm_0_13 rfl in_X9_isHand_X9 km_0 (by decide) (List.mem_of_getElem? (i := 1) rfl) rfl dX9_isHand_3 ?_
  refine lv_iconst (v := (1 : Int32)) hx hb1 dX9_isHand_6 (by decide) ?_
  refine lv_isub hx hb1 dX9_isHand_7 ?_
  refine hh_kI h (va_runS (As := [.int x1, .int (0 : Int32), .int ((hh_I σ 13) - (1 : Int32))]) (rest := []) X.1 (ad_X9_in (D := D) l J x1 (0 : Int32) ((hh_I σ 13) - (1 : Int32)) σ _ hq) (va_cwS 3 X.1.2.2.2.2 gX9_isHand_X9_in rfl rfl rfl nd_X9_in ⟨Nat.le_of_ble_eq_true rfl, Nat.le_of_ble_eq_true rfl⟩) (hh_preS X h [.int x1, .int (0 : Int32), .int ((hh_I σ 13) - (1 : Int32))]) rfl rfl hl.1 rfl (lv_room (Nat.le_of_ble_eq_true rfl)) dX9_isHand_8 ⟨Nat.le_of_ble_eq_true rfl, Nat.le_of_ble_eq_true rfl⟩) (fun r1 σ2 H locs hq h => ?_)
  obtain ⟨h3, hq⟩ := hq
  exact hh_zret X h hr hlocks h3 hq dX9_isHand_11
theorem nd_X9_labelsOf : yX9_labelsOf.cls = RX9 ∧ yX9_labelsOf.cls ≠ "java/lang/invoke/MethodHandle" ∧ yX9_labelsOf.cls ≠ "java/lang/invoke/VarHandle" ∧ (parseMethodDescriptor yX9_labelsOf.desc).map (fun d => d.parameters.length) = some 1 := by decide +kernel
abbrev rm_X9_labelsOf : Room := { frames := 0, cells := 0, slots := 0, locals := 0 }
def wp_X9_labelsOf (x1 : Int32) (σ : hh_S) (Q : Int32 → hh_S → Prop) : Prop := (vp_in x1 24 ∧ (vp_in (hh_rA σ 6 x1) 8 ∧ (Q (hh_rA σ 3 (hh_rA σ 6 x1)) σ)))
theorem in_X9_labelsOf_X9 : ∀ w ∈ u_ws RX9 TX9 37, w ∈ wsX9_labelsOf := fun w h => List.mem_cons_of_mem _ (List.mem_append_right _ h)
set_option maxHeartbeats 4000000 in
set_option maxRecDepth 100000 in
theorem ad_X9_labelsOf {D : va_G} (l : Launch) {cy : Nat → ClassId} {ad : Nat → Nat} (J : hh_J hm_Y ad) (x1 : Int32) (σ : hh_S) (Q : Int32 → hh_S → Prop) (hq : wp_X9_labelsOf x1 σ Q) : Met l yX9_labelsOf wsX9_labelsOf rm_X9_labelsOf (va_Pc [.ref (ad 0), .int x1] (hh_B D hh_cl hm_Y cy ad σ)) (va_Qi Q (hh_B D hh_cl hm_Y cy ad) (hh_A hm_Y ad)) 0 0 (hh_A hm_Y ad) := by
  refine Met.ofW (cc := cX9_labelsOf) (maxL := 2) (ret := (some .int)) (by decide) rfl ?_
  intro p e s m args below meth c s₁ B hml hv
  obtain ⟨hargs, hP0, hK0⟩ := hv
  have hr := B.returns
  have hlocks := B.notSynchronized
  have X : hh_X p m c cX9_labelsOf 2 s args wsX9_labelsOf RX9 D hh_cl hm_Y cy ad := ⟨⟨B.exec, B.bytes, hml, findClass_of_methodNamed B.named, atoms_spec (ws := wsX9_labelsOf) B.pre⟩, hK0, J⟩
  have hx := X.1.1
  have hb1 := X.1.2.1
  have h : hh_H D hh_cl hm_Y cy ad s.heap σ s.heap [] := ⟨hP0, va_S.rf⟩
  subst hargs
  refine hh_entry (vs := [.ref (ad 0), .int x1]) (Nat.le_of_ble_eq_true rfl) (fun ls hl => ?_)
  have hl : lv_has ls 2 [(0, .ref (ad 0)), (1, .int x1)] := hl
  have hq : wp_X9_labelsOf x1 σ Q := hq
  unfold wp_X9_labelsOf at hq
  refine lv_aload_n hx hb1 dX9_labelsOf_0 rfl (lv_at hl 0 rfl) ?_
  refine hh_getr X h fm_0_4 in_X9_labelsOf_X9 km_0 (by decide) (List.mem_of_getElem? (i := 1) rfl) rfl dX9_labelsOf_1 ?_
  refine lv_aload_n hx hb1 dX9_labelsOf_4 rfl (lv_at hl 0 rfl) ?_
  refine hh_getr X h fm_0_8 in_X9_labelsOf_X9 km_0 (by decide) (List.mem_of_getElem? (i := 2) rfl) rfl dX9_labelsOf_5 ?_
  refine lv_iload_n hx hb1 dX9_labelsOf_8 rfl (lv_at hl 1 rfl) ?_
  obtain ⟨h1, hq⟩ := hq
  refine hh_ild X h am_6 h1 dX9_labelsOf_9 ?_
  obtain ⟨h2, hq⟩ := hq
  refine hh_ild X h am_3 h2 dX9_labelsOf_10 ?_
  exact hh_iret X h hr hlocks hq dX9_labelsOf_11
theorem nd_X9_isLabel : yX9_isLabel.cls = RX9 ∧ yX9_isLabel.cls ≠ "java/lang/invoke/MethodHandle" ∧ yX9_isLabel.cls ≠ "java/lang/invoke/VarHandle" ∧ (parseMethodDescriptor yX9_isLabel.desc).map (fun d => d.parameters.length) = some 2 := by decide +kernel
abbrev rm_X9_isLabel : Room := { frames := 2, cells := 0, slots := 0, locals := 43 }
def wp_X9_isLabel (x1 : Int32) (x2 : Int32) (σ : hh_S) (Q : Int32 → hh_S → Prop) : Prop := (wp_X9_isItem x1 σ (fun (r1 : Int32) (σ2 : hh_S) => ((r1 = 0 → (Q (0 : Int32) σ2)) ∧ (¬ r1 = 0 → (wp_X9_labelsOf x1 σ2 (fun (r4 : Int32) (σ5 : hh_S) => (wp_X9_in x2 (0 : Int32) (r4 - (1 : Int32)) σ5 (fun (r6 : Int32) (σ7 : hh_S) => ((r6 = 0 → (Q (0 : Int32) σ7)) ∧ (¬ r6 = 0 → (Q (1 : Int32) σ7)))))))))))
theorem in_X9_isLabel_X9 : ∀ w ∈ u_ws RX9 TX9 37, w ∈ wsX9_isLabel := fun w h => List.mem_cons_of_mem _ (List.mem_append_right _ h)
set_option maxHeartbeats 4000000 in
set_option maxRecDepth 100000 in
theorem ad_X9_isLabel {D : va_G} (l : Launch) {cy : Nat → ClassId} {ad : Nat → Nat} (J : hh_J hm_Y ad) (x1 : Int32) (x2 : Int32) (σ : hh_S) (Q : Int32 → hh_S → Prop) (hq : wp_X9_isLabel x1 x2 σ Q) : Met l yX9_isLabel wsX9_isLabel rm_X9_isLabel (va_Pc [.ref (ad 0), .int x1, .int x2] (hh_B D hh_cl hm_Y cy ad σ)) (va_Qi Q (hh_B D hh_cl hm_Y cy ad) (hh_A hm_Y ad)) 0 0 (hh_A hm_Y ad) := by
  refine Met.ofW (cc := cX9_isLabel) (maxL := 3) (ret := (some .boolean)) (by decide) rfl ?_
  intro p e s m args below meth c s₁ B hml hv
  obtain ⟨hargs, hP0, hK0⟩ := hv
  have hr := B.returns
  have hlocks := B.notSynchronized
  have X : hh_X p m c cX9_isLabel 3 s args wsX9_isLabel RX9 D hh_cl hm_Y cy ad := ⟨⟨B.exec, B.bytes, hml, findClass_of_methodNamed B.named, atoms_spec (ws := wsX9_isLabel) B.pre⟩, hK0, J⟩
  have hx := X.1.1
  have hb1 := X.1.2.1
  have h : hh_H D hh_cl hm_Y cy ad s.heap σ s.heap [] := ⟨hP0, va_S.rf⟩
  subst hargs
  refine hh_entry (vs := [.ref (ad 0), .int x1, .int x2]) (Nat.le_of_ble_eq_true rfl) (fun ls hl => ?_)
  have hl : lv_has ls 3 [(0, .ref (ad 0)), (1, .int x1), (2, .int x2)] := hl
  have hq : wp_X9_isLabel x1 x2 σ Q := hq
  unfold wp_X9_isLabel at hq
  refine lv_aload_n hx hb1 dX9_isLabel_0 rfl (lv_at hl 0 rfl) ?_
  refine lv_iload_n hx hb1 dX9_isLabel_1 rfl (lv_at hl 1 rfl) ?_
  refine hh_kI h (va_runV (As := [.int x1]) (rest := []) X.1 (ad_X9_isItem (D := D) l J x1 σ _ hq) (cwV 1 X.1.2.2.2.2 gX9_isLabel_X9_isItem rfl rfl rfl nd_X9_isItem ⟨Nat.le_of_ble_eq_true rfl, Nat.le_of_ble_eq_true rfl⟩) (hh_preV X h fm_0_0 km_0 [.int x1]) rfl rfl hl.1 rfl (lv_room (Nat.le_of_ble_eq_true rfl)) dX9_isLabel_2 ⟨Nat.le_of_ble_eq_true rfl, Nat.le_of_ble_eq_true rfl⟩) (fun r1 σ2 H locs hq h => ?_)
  refine lv_if_eq (tgt := 27) hx hb1 dX9_isLabel_5 (by decide) (fun c3 => ?_) (fun c3 => ?_)
  · have hq := hq.1 c3
    refine lv_iconst (v := (0 : Int32)) hx hb1 dX9_isLabel_27 (by decide) ?_
    exact hh_zret X h hr hlocks rfl hq dX9_isLabel_28
  · have hq := hq.2 c3
    refine lv_iload_n hx hb1 dX9_isLabel_8 rfl (lv_at hl 2 rfl) ?_
    refine lv_iconst (v := (0 : Int32)) hx hb1 dX9_isLabel_9 (by decide) ?_
    refine lv_aload_n hx hb1 dX9_isLabel_10 rfl (lv_at hl 0 rfl) ?_
    refine lv_iload_n hx hb1 dX9_isLabel_11 rfl (lv_at hl 1 rfl) ?_
    refine hh_kI h (va_runV (As := [.int x1]) (rest := [.int (0 : Int32), .int x2]) X.1 (ad_X9_labelsOf (D := D) l J x1 σ2 _ hq) (cwV 1 X.1.2.2.2.2 gX9_isLabel_X9_labelsOf rfl rfl rfl nd_X9_labelsOf ⟨Nat.le_of_ble_eq_true rfl, Nat.le_of_ble_eq_true rfl⟩) (hh_preV X h fm_0_0 km_0 [.int x1]) rfl rfl hl.1 rfl (lv_room (Nat.le_of_ble_eq_true rfl)) dX9_isLabel_12 ⟨Nat.le_of_ble_eq_true rfl, Nat.le_of_ble_eq_true rfl⟩) (fun r4 σ5 H locs hq h => ?_)
    refine lv_iconst (v := (1 : Int32)) hx hb1 dX9_isLabel_15 (by decide) ?_
    refine lv_isub hx hb1 dX9_isLabel_16 ?_
    refine hh_kI h (va_runS (As := [.int x2, .int (0 : Int32), .int (r4 - (1 : Int32))]) (rest := []) X.1 (ad_X9_in (D := D) l J x2 (0 : Int32) (r4 - (1 : Int32)) σ5 _ hq) (va_cwS 3 X.1.2.2.2.2 gX9_isLabel_X9_in rfl rfl rfl nd_X9_in ⟨Nat.le_of_ble_eq_true rfl, Nat.le_of_ble_eq_true rfl⟩) (hh_preS X h [.int x2, .int (0 : Int32), .int (r4 - (1 : Int32))]) rfl rfl hl.1 rfl (lv_room (Nat.le_of_ble_eq_true rfl)) dX9_isLabel_17 ⟨Nat.le_of_ble_eq_true rfl, Nat.le_of_ble_eq_true rfl⟩) (fun r6 σ7 H locs hq h => ?_)
    refine lv_if_eq (tgt := 27) hx hb1 dX9_isLabel_20 (by decide) (fun c8 => ?_) (fun c8 => ?_)
    · have hq := hq.1 c8
      refine lv_iconst (v := (0 : Int32)) hx hb1 dX9_isLabel_27 (by decide) ?_
      exact hh_zret X h hr hlocks rfl hq dX9_isLabel_28
    · have hq := hq.2 c8
      refine lv_iconst (v := (1 : Int32)) hx hb1 dX9_isLabel_23 (by decide) ?_
      refine lv_goto (tgt := 28) hx hb1 dX9_isLabel_24 (by decide) ?_
      exact hh_zret X h hr hlocks rfl hq dX9_isLabel_28
theorem nd_X9_fixed : yX9_fixed.cls = RX9 ∧ yX9_fixed.cls ≠ "java/lang/invoke/MethodHandle" ∧ yX9_fixed.cls ≠ "java/lang/invoke/VarHandle" ∧ (parseMethodDescriptor yX9_fixed.desc).map (fun d => d.parameters.length) = some 1 := by decide +kernel
abbrev rm_X9_fixed : Room := { frames := 0, cells := 0, slots := 0, locals := 0 }
def wp_X9_fixed (x1 : Int32) (σ : hh_S) (Q : Int32 → hh_S → Prop) : Prop := (vp_in x1 24 ∧ (((hh_rA σ 8 x1) < 0 → (vp_in x1 24 ∧ (Q (hh_rA σ 9 x1) σ))) ∧ (¬ (hh_rA σ 8 x1) < 0 → (vp_in x1 24 ∧ (Q (hh_rA σ 8 x1) σ)))))
theorem in_X9_fixed_X9 : ∀ w ∈ u_ws RX9 TX9 37, w ∈ wsX9_fixed := fun w h => List.mem_cons_of_mem _ (List.mem_append_right _ h)
set_option maxHeartbeats 4000000 in
set_option maxRecDepth 100000 in
theorem ad_X9_fixed {D : va_G} (l : Launch) {cy : Nat → ClassId} {ad : Nat → Nat} (J : hh_J hm_Y ad) (x1 : Int32) (σ : hh_S) (Q : Int32 → hh_S → Prop) (hq : wp_X9_fixed x1 σ Q) : Met l yX9_fixed wsX9_fixed rm_X9_fixed (va_Pc [.ref (ad 0), .int x1] (hh_B D hh_cl hm_Y cy ad σ)) (va_Qi Q (hh_B D hh_cl hm_Y cy ad) (hh_A hm_Y ad)) 0 0 (hh_A hm_Y ad) := by
  refine Met.ofW (cc := cX9_fixed) (maxL := 2) (ret := (some .int)) (by decide) rfl ?_
  intro p e s m args below meth c s₁ B hml hv
  obtain ⟨hargs, hP0, hK0⟩ := hv
  have hr := B.returns
  have hlocks := B.notSynchronized
  have X : hh_X p m c cX9_fixed 2 s args wsX9_fixed RX9 D hh_cl hm_Y cy ad := ⟨⟨B.exec, B.bytes, hml, findClass_of_methodNamed B.named, atoms_spec (ws := wsX9_fixed) B.pre⟩, hK0, J⟩
  have hx := X.1.1
  have hb1 := X.1.2.1
  have h : hh_H D hh_cl hm_Y cy ad s.heap σ s.heap [] := ⟨hP0, va_S.rf⟩
  subst hargs
  refine hh_entry (vs := [.ref (ad 0), .int x1]) (Nat.le_of_ble_eq_true rfl) (fun ls hl => ?_)
  have hl : lv_has ls 2 [(0, .ref (ad 0)), (1, .int x1)] := hl
  have hq : wp_X9_fixed x1 σ Q := hq
  unfold wp_X9_fixed at hq
  refine lv_aload_n hx hb1 dX9_fixed_0 rfl (lv_at hl 0 rfl) ?_
  refine hh_getr X h fm_0_10 in_X9_fixed_X9 km_0 (by decide) (List.mem_of_getElem? (i := 1) rfl) rfl dX9_fixed_1 ?_
  refine lv_iload_n hx hb1 dX9_fixed_4 rfl (lv_at hl 1 rfl) ?_
  obtain ⟨h1, hq⟩ := hq
  refine hh_ild X h am_8 h1 dX9_fixed_5 ?_
  refine lv_if_lt (tgt := 18) hx hb1 dX9_fixed_6 (by decide) (fun c2 => ?_) (fun c2 => ?_)
  · have hq := hq.1 c2
    refine lv_aload_n hx hb1 dX9_fixed_18 rfl (lv_at hl 0 rfl) ?_
    refine hh_getr X h fm_0_11 in_X9_fixed_X9 km_0 (by decide) (List.mem_of_getElem? (i := 2) rfl) rfl dX9_fixed_19 ?_
    refine lv_iload_n hx hb1 dX9_fixed_22 rfl (lv_at hl 1 rfl) ?_
    obtain ⟨h3, hq⟩ := hq
    refine hh_ild X h am_9 h3 dX9_fixed_23 ?_
    exact hh_iret X h hr hlocks hq dX9_fixed_24
  · have hq := hq.2 c2
    refine lv_aload_n hx hb1 dX9_fixed_9 rfl (lv_at hl 0 rfl) ?_
    refine hh_getr X h fm_0_10 in_X9_fixed_X9 km_0 (by decide) (List.mem_of_getElem? (i := 1) rfl) rfl dX9_fixed_10 ?_
    refine lv_iload_n hx hb1 dX9_fixed_13 rfl (lv_at hl 1 rfl) ?_
    obtain ⟨h4, hq⟩ := hq
    refine hh_ild X h am_8 h4 dX9_fixed_14 ?_
    refine lv_goto (tgt := 24) hx hb1 dX9_fixed_15 (by decide) ?_
    exact hh_iret X h hr hlocks hq dX9_fixed_24
theorem nd_X9_known : yX9_known.cls = RX9 ∧ yX9_known.cls ≠ "java/lang/invoke/MethodHandle" ∧ yX9_known.cls ≠ "java/lang/invoke/VarHandle" ∧ (parseMethodDescriptor yX9_known.desc).map (fun d => d.parameters.length) = some 2 := by decide +kernel
abbrev rm_X9_known : Room := { frames := 3, cells := 0, slots := 0, locals := 65 }
def wq_X9_known_16 (x1 : Int32) (x2 : Int32) (Q : Int32 → hh_S → Prop) (K16 : Int32 → Int32 → hh_S → Prop) (x3 : Int32) (x4 : Int32) (σ : hh_S) : Prop := (((hh_I σ 13) ≤ x4 → ((¬ x3 = 0 → (Q (-3 : Int32) σ)) ∧ (x3 = 0 → (wp_X9_fixed x1 σ (fun (r3 : Int32) (σ4 : hh_S) => ((r3 < 0 → (vp_in x1 24 ∧ ∀ σ7 : hh_S, σ7 = hh_sA σ4 8 x1 x2 → (Q (1 : Int32) σ7))) ∧ (¬ r3 < 0 → (Q (-3 : Int32) σ4)))))))) ∧ (¬ (hh_I σ 13) ≤ x4 → ((¬ x3 = 0 → (K16 (1 : Int32) (x4 + (1 : Int32)) σ)) ∧ (x3 = 0 → (vp_in (((24 : Int32) * x4) + x1) 240 ∧ (((hh_rA σ 13 (((24 : Int32) * x4) + x1)) ≤ 0 → (K16 (0 : Int32) (x4 + (1 : Int32)) σ)) ∧ (¬ (hh_rA σ 13 (((24 : Int32) * x4) + x1)) ≤ 0 → (K16 (1 : Int32) (x4 + (1 : Int32)) σ))))))))
def wp_X9_known (x1 : Int32) (x2 : Int32) (σ : hh_S) (Q : Int32 → hh_S → Prop) : Prop := (wp_X9_isLabel x1 x2 σ (fun (r11 : Int32) (σ12 : hh_S) => ((¬ r11 = 0 → (∃ n : Nat, hh_lp2 (wq_X9_known_16 x1 x2 Q) n (0 : Int32) (0 : Int32) σ12)) ∧ (r11 = 0 → (Q (-1 : Int32) σ12)))))
theorem in_X9_known_X9 : ∀ w ∈ u_ws RX9 TX9 37, w ∈ wsX9_known := fun w h => List.mem_cons_of_mem _ (List.mem_append_right _ h)
set_option maxHeartbeats 4000000 in
set_option maxRecDepth 100000 in
theorem ad_X9_known {D : va_G} (l : Launch) {cy : Nat → ClassId} {ad : Nat → Nat} (J : hh_J hm_Y ad) (x1 : Int32) (x2 : Int32) (σ : hh_S) (Q : Int32 → hh_S → Prop) (hq : wp_X9_known x1 x2 σ Q) : Met l yX9_known wsX9_known rm_X9_known (va_Pc [.ref (ad 0), .int x1, .int x2] (hh_B D hh_cl hm_Y cy ad σ)) (va_Qi Q (hh_B D hh_cl hm_Y cy ad) (hh_A hm_Y ad)) 0 0 (hh_A hm_Y ad) := by
  refine Met.ofW (cc := cX9_known) (maxL := 5) (ret := (some .int)) (by decide) rfl ?_
  intro p e s m args below meth c s₁ B hml hv
  obtain ⟨hargs, hP0, hK0⟩ := hv
  have hr := B.returns
  have hlocks := B.notSynchronized
  have X : hh_X p m c cX9_known 5 s args wsX9_known RX9 D hh_cl hm_Y cy ad := ⟨⟨B.exec, B.bytes, hml, findClass_of_methodNamed B.named, atoms_spec (ws := wsX9_known) B.pre⟩, hK0, J⟩
  have hx := X.1.1
  have hb1 := X.1.2.1
  have h : hh_H D hh_cl hm_Y cy ad s.heap σ s.heap [] := ⟨hP0, va_S.rf⟩
  have lt_16 : ∀ (x1 : Int32) (x2 : Int32) (n : Nat) (x3 : Int32) (x4 : Int32) (σ : hh_S) (H : Heap) (locs : List Loc) (ls : Array Slot), hh_lp2 (wq_X9_known_16 x1 x2 Q) n x3 x4 σ → hh_H D hh_cl hm_Y cy ad s.heap σ H locs → lv_has ls 5 [(0, .ref (ad 0)), (1, .int x1), (2, .int x2), (3, .int x3), (4, .int x4)] → W p l e (headSpec wsX9_known rm_X9_known).room s m args below meth c H locs 0 0 (MQ below (va_Qi Q (hh_B D hh_cl hm_Y cy ad) (hh_A hm_Y ad)) args s 0 0 (hh_A hm_Y ad)) (F0 m 16 ls []) := by
    intro x1 x2 n
    induction n with
    | zero => intro x3 x4 σ H locs ls hq h hl; exact hq.elim
    | succ n ih =>
      intro x3 x4 σ H locs ls hq h hl
      have hq : wq_X9_known_16 x1 x2 Q (hh_lp2 (wq_X9_known_16 x1 x2 Q) n) x3 x4 σ := hq
      unfold wq_X9_known_16 at hq
      refine lv_iload hx hb1 dX9_known_16 (lv_at hl 4 rfl) ?_
      refine lv_aload_n hx hb1 dX9_known_18 rfl (lv_at hl 0 rfl) ?_
      refine hh_geti X h (q := 13) fm_0_13 rfl in_X9_known_X9 km_0 (by decide) (List.mem_of_getElem? (i := 1) rfl) rfl dX9_known_19 ?_
      refine lv_icmp_ge (tgt := 56) hx hb1 dX9_known_22 (by decide) (fun c1 => ?_) (fun c1 => ?_)
      · have hq := hq.1 c1
        refine lv_iload_n hx hb1 dX9_known_56 rfl (lv_at hl 3 rfl) ?_
        refine lv_if_ne (tgt := 68) hx hb1 dX9_known_57 (by decide) (fun c2 => ?_) (fun c2 => ?_)
        · have hq := hq.1 c2
          refine lv_bipush (v := (-3 : Int32)) hx hb1 dX9_known_68 (by decide) ?_
          exact hh_iret X h hr hlocks hq dX9_known_70
        · have hq := hq.2 c2
          refine lv_aload_n hx hb1 dX9_known_60 rfl (lv_at hl 0 rfl) ?_
          refine lv_iload_n hx hb1 dX9_known_61 rfl (lv_at hl 1 rfl) ?_
          refine hh_kI h (va_runV (As := [.int x1]) (rest := []) X.1 (ad_X9_fixed (D := D) l J x1 σ _ hq) (cwV 1 X.1.2.2.2.2 gX9_known_X9_fixed rfl rfl rfl nd_X9_fixed ⟨Nat.le_of_ble_eq_true rfl, Nat.le_of_ble_eq_true rfl⟩) (hh_preV X h fm_0_0 km_0 [.int x1]) rfl rfl hl.1 rfl (lv_room (Nat.le_of_ble_eq_true rfl)) dX9_known_62 ⟨Nat.le_of_ble_eq_true rfl, Nat.le_of_ble_eq_true rfl⟩) (fun r3 σ4 H locs hq h => ?_)
          refine lv_if_lt (tgt := 71) hx hb1 dX9_known_65 (by decide) (fun c5 => ?_) (fun c5 => ?_)
          · have hq := hq.1 c5
            refine lv_aload_n hx hb1 dX9_known_71 rfl (lv_at hl 0 rfl) ?_
            refine hh_getr X h fm_0_10 in_X9_known_X9 km_0 (by decide) (List.mem_of_getElem? (i := 3) rfl) rfl dX9_known_72 ?_
            refine lv_iload_n hx hb1 dX9_known_75 rfl (lv_at hl 1 rfl) ?_
            refine lv_iload_n hx hb1 dX9_known_76 rfl (lv_at hl 2 rfl) ?_
            obtain ⟨h6, hq⟩ := hq
            refine hh_ist X h am_8 h6 dX9_known_77 (fun σ7 H locs eσ7 h => ?_)
            have hq := hq σ7 eσ7
            refine lv_iconst (v := (1 : Int32)) hx hb1 dX9_known_78 (by decide) ?_
            exact hh_iret X h hr hlocks hq dX9_known_79
          · have hq := hq.2 c5
            refine lv_bipush (v := (-3 : Int32)) hx hb1 dX9_known_68 (by decide) ?_
            exact hh_iret X h hr hlocks hq dX9_known_70
      · have hq := hq.2 c1
        refine lv_iload_n hx hb1 dX9_known_25 rfl (lv_at hl 3 rfl) ?_
        refine lv_if_ne (tgt := 44) hx hb1 dX9_known_26 (by decide) (fun c8 => ?_) (fun c8 => ?_)
        · have hq := hq.1 c8
          refine lv_iconst (v := (1 : Int32)) hx hb1 dX9_known_44 (by decide) ?_
          refine lv_goto (tgt := 49) hx hb1 dX9_known_45 (by decide) ?_
          refine lv_istore_n (lv' := [(3, .int (1 : Int32)), (0, .ref (ad 0)), (1, .int x1), (2, .int x2), (4, .int x4)]) hx hb1 dX9_known_49 rfl hl (by decide) rfl (fun ls hl => ?_)
          refine lv_iinc (v := (x4 + (1 : Int32))) (lv' := [(4, .int (x4 + (1 : Int32))), (3, .int (1 : Int32)), (0, .ref (ad 0)), (1, .int x1), (2, .int x2)]) hx hb1 dX9_known_50 hl (k := 4) rfl rfl (by decide) rfl (fun ls hl => ?_)
          refine lv_goto (tgt := 16) hx hb1 dX9_known_53 (by decide) ?_
          exact ih (1 : Int32) (x4 + (1 : Int32)) σ _ _ ls hq h (lv_sub hl [2, 3, 4, 1, 0] rfl)
        · have hq := hq.2 c8
          refine lv_aload_n hx hb1 dX9_known_29 rfl (lv_at hl 0 rfl) ?_
          refine hh_getr X h fm_0_16 in_X9_known_X9 km_0 (by decide) (List.mem_of_getElem? (i := 2) rfl) rfl dX9_known_30 ?_
          refine lv_bipush (v := (24 : Int32)) hx hb1 dX9_known_33 (by decide) ?_
          refine lv_iload hx hb1 dX9_known_35 (lv_at hl 4 rfl) ?_
          refine lv_imul hx hb1 dX9_known_37 ?_
          refine lv_iload_n hx hb1 dX9_known_38 rfl (lv_at hl 1 rfl) ?_
          refine lv_iadd hx hb1 dX9_known_39 ?_
          obtain ⟨h9, hq⟩ := hq
          refine hh_ild X h am_13 h9 dX9_known_40 ?_
          refine lv_if_le (tgt := 48) hx hb1 dX9_known_41 (by decide) (fun c10 => ?_) (fun c10 => ?_)
          · have hq := hq.1 c10
            refine lv_iconst (v := (0 : Int32)) hx hb1 dX9_known_48 (by decide) ?_
            refine lv_istore_n (lv' := [(3, .int (0 : Int32)), (0, .ref (ad 0)), (1, .int x1), (2, .int x2), (4, .int x4)]) hx hb1 dX9_known_49 rfl hl (by decide) rfl (fun ls hl => ?_)
            refine lv_iinc (v := (x4 + (1 : Int32))) (lv' := [(4, .int (x4 + (1 : Int32))), (3, .int (0 : Int32)), (0, .ref (ad 0)), (1, .int x1), (2, .int x2)]) hx hb1 dX9_known_50 hl (k := 4) rfl rfl (by decide) rfl (fun ls hl => ?_)
            refine lv_goto (tgt := 16) hx hb1 dX9_known_53 (by decide) ?_
            exact ih (0 : Int32) (x4 + (1 : Int32)) σ _ _ ls hq h (lv_sub hl [2, 3, 4, 1, 0] rfl)
          · have hq := hq.2 c10
            refine lv_iconst (v := (1 : Int32)) hx hb1 dX9_known_44 (by decide) ?_
            refine lv_goto (tgt := 49) hx hb1 dX9_known_45 (by decide) ?_
            refine lv_istore_n (lv' := [(3, .int (1 : Int32)), (0, .ref (ad 0)), (1, .int x1), (2, .int x2), (4, .int x4)]) hx hb1 dX9_known_49 rfl hl (by decide) rfl (fun ls hl => ?_)
            refine lv_iinc (v := (x4 + (1 : Int32))) (lv' := [(4, .int (x4 + (1 : Int32))), (3, .int (1 : Int32)), (0, .ref (ad 0)), (1, .int x1), (2, .int x2)]) hx hb1 dX9_known_50 hl (k := 4) rfl rfl (by decide) rfl (fun ls hl => ?_)
            refine lv_goto (tgt := 16) hx hb1 dX9_known_53 (by decide) ?_
            exact ih (1 : Int32) (x4 + (1 : Int32)) σ _ _ ls hq h (lv_sub hl [2, 3, 4, 1, 0] rfl)
  subst hargs
  refine hh_entry (vs := [.ref (ad 0), .int x1, .int x2]) (Nat.le_of_ble_eq_true rfl) (fun ls hl => ?_)
  have hl : lv_has ls 5 [(0, .ref (ad 0)), (1, .int x1), (2, .int x2)] := hl
  have hq : wp_X9_known x1 x2 σ Q := hq
  unfold wp_X9_known at hq
  refine lv_aload_n hx hb1 dX9_known_0 rfl (lv_at hl 0 rfl) ?_
  refine lv_iload_n hx hb1 dX9_known_1 rfl (lv_at hl 1 rfl) ?_
  refine lv_iload_n hx hb1 dX9_known_2 rfl (lv_at hl 2 rfl) ?_
  refine hh_kI h (va_runV (As := [.int x1, .int x2]) (rest := []) X.1 (ad_X9_isLabel (D := D) l J x1 x2 σ _ hq) (cwV 2 X.1.2.2.2.2 gX9_known_X9_isLabel rfl rfl rfl nd_X9_isLabel ⟨Nat.le_of_ble_eq_true rfl, Nat.le_of_ble_eq_true rfl⟩) (hh_preV X h fm_0_0 km_0 [.int x1, .int x2]) rfl rfl hl.1 rfl (lv_room (Nat.le_of_ble_eq_true rfl)) dX9_known_3 ⟨Nat.le_of_ble_eq_true rfl, Nat.le_of_ble_eq_true rfl⟩) (fun r11 σ12 H locs hq h => ?_)
  refine lv_if_ne (tgt := 11) hx hb1 dX9_known_6 (by decide) (fun c13 => ?_) (fun c13 => ?_)
  · have hq := hq.1 c13
    refine lv_iconst (v := (0 : Int32)) hx hb1 dX9_known_11 (by decide) ?_
    refine lv_istore_n (lv' := [(3, .int (0 : Int32)), (0, .ref (ad 0)), (1, .int x1), (2, .int x2)]) hx hb1 dX9_known_12 rfl hl (by decide) rfl (fun ls hl => ?_)
    refine lv_iconst (v := (0 : Int32)) hx hb1 dX9_known_13 (by decide) ?_
    refine lv_istore (lv' := [(4, .int (0 : Int32)), (3, .int (0 : Int32)), (0, .ref (ad 0)), (1, .int x1), (2, .int x2)]) hx hb1 dX9_known_14 hl (by decide) rfl (fun ls hl => ?_)
    obtain ⟨n14, hq⟩ := hq
    exact lt_16 x1 x2 n14 (0 : Int32) (0 : Int32) σ12 _ _ ls hq h (lv_sub hl [2, 3, 4, 1, 0] rfl)
  · have hq := hq.2 c13
    refine lv_iconst (v := (-1 : Int32)) hx hb1 dX9_known_9 (by decide) ?_
    exact hh_iret X h hr hlocks hq dX9_known_10
theorem nd_X9_settle : yX9_settle.cls = RX9 ∧ yX9_settle.cls ≠ "java/lang/invoke/MethodHandle" ∧ yX9_settle.cls ≠ "java/lang/invoke/VarHandle" ∧ (parseMethodDescriptor yX9_settle.desc).map (fun d => d.parameters.length) = some 2 := by decide +kernel
abbrev rm_X9_settle : Room := { frames := 3, cells := 0, slots := 0, locals := 65 }
def wp_X9_settle (x1 : Int32) (x2 : Int32) (σ : hh_S) (Q : Int32 → hh_S → Prop) : Prop := (wp_X9_isLabel x1 x2 σ (fun (r1 : Int32) (σ2 : hh_S) => ((¬ r1 = 0 → (vp_in x1 24 ∧ (((hh_rA σ2 8 x1) < 0 → (vp_in x1 24 ∧ (∀ v7 : Int32, v7 = (hh_rA σ2 9 x1) → (vp_in x1 24 ∧ ∀ σ9 : hh_S, σ9 = hh_sA σ2 9 x1 x2 → (Q v7 σ9))))) ∧ (¬ (hh_rA σ2 8 x1) < 0 → (Q (-3 : Int32) σ2))))) ∧ (r1 = 0 → (Q (-1 : Int32) σ2)))))
theorem in_X9_settle_X9 : ∀ w ∈ u_ws RX9 TX9 37, w ∈ wsX9_settle := fun w h => List.mem_cons_of_mem _ (List.mem_append_right _ h)
set_option maxHeartbeats 4000000 in
set_option maxRecDepth 100000 in
theorem ad_X9_settle {D : va_G} (l : Launch) {cy : Nat → ClassId} {ad : Nat → Nat} (J : hh_J hm_Y ad) (x1 : Int32) (x2 : Int32) (σ : hh_S) (Q : Int32 → hh_S → Prop) (hq : wp_X9_settle x1 x2 σ Q) : Met l yX9_settle wsX9_settle rm_X9_settle (va_Pc [.ref (ad 0), .int x1, .int x2] (hh_B D hh_cl hm_Y cy ad σ)) (va_Qi Q (hh_B D hh_cl hm_Y cy ad) (hh_A hm_Y ad)) 0 0 (hh_A hm_Y ad) := by
  refine Met.ofW (cc := cX9_settle) (maxL := 4) (ret := (some .int)) (by decide) rfl ?_
  intro p e s m args below meth c s₁ B hml hv
  obtain ⟨hargs, hP0, hK0⟩ := hv
  have hr := B.returns
  have hlocks := B.notSynchronized
  have X : hh_X p m c cX9_settle 4 s args wsX9_settle RX9 D hh_cl hm_Y cy ad := ⟨⟨B.exec, B.bytes, hml, findClass_of_methodNamed B.named, atoms_spec (ws := wsX9_settle) B.pre⟩, hK0, J⟩
  have hx := X.1.1
  have hb1 := X.1.2.1
  have h : hh_H D hh_cl hm_Y cy ad s.heap σ s.heap [] := ⟨hP0, va_S.rf⟩
  subst hargs
  refine hh_entry (vs := [.ref (ad 0), .int x1, .int x2]) (Nat.le_of_ble_eq_true rfl) (fun ls hl => ?_)
  have hl : lv_has ls 4 [(0, .ref (ad 0)), (1, .int x1), (2, .int x2)] := hl
  have hq : wp_X9_settle x1 x2 σ Q := hq
  unfold wp_X9_settle at hq
  refine lv_aload_n hx hb1 dX9_settle_0 rfl (lv_at hl 0 rfl) ?_
  refine lv_iload_n hx hb1 dX9_settle_1 rfl (lv_at hl 1 rfl) ?_
  refine lv_iload_n hx hb1 dX9_settle_2 rfl (lv_at hl 2 rfl) ?_
  refine hh_kI h (va_runV (As := [.int x1, .int x2]) (rest := []) X.1 (ad_X9_isLabel (D := D) l J x1 x2 σ _ hq) (cwV 2 X.1.2.2.2.2 gX9_settle_X9_isLabel rfl rfl rfl nd_X9_isLabel ⟨Nat.le_of_ble_eq_true rfl, Nat.le_of_ble_eq_true rfl⟩) (hh_preV X h fm_0_0 km_0 [.int x1, .int x2]) rfl rfl hl.1 rfl (lv_room (Nat.le_of_ble_eq_true rfl)) dX9_settle_3 ⟨Nat.le_of_ble_eq_true rfl, Nat.le_of_ble_eq_true rfl⟩) (fun r1 σ2 H locs hq h => ?_)
  refine lv_if_ne (tgt := 11) hx hb1 dX9_settle_6 (by decide) (fun c3 => ?_) (fun c3 => ?_)
  · have hq := hq.1 c3
    refine lv_aload_n hx hb1 dX9_settle_11 rfl (lv_at hl 0 rfl) ?_
    refine hh_getr X h fm_0_10 in_X9_settle_X9 km_0 (by decide) (List.mem_of_getElem? (i := 1) rfl) rfl dX9_settle_12 ?_
    refine lv_iload_n hx hb1 dX9_settle_15 rfl (lv_at hl 1 rfl) ?_
    obtain ⟨h4, hq⟩ := hq
    refine hh_ild X h am_8 h4 dX9_settle_16 ?_
    refine lv_if_lt (tgt := 23) hx hb1 dX9_settle_17 (by decide) (fun c5 => ?_) (fun c5 => ?_)
    · have hq := hq.1 c5
      refine lv_aload_n hx hb1 dX9_settle_23 rfl (lv_at hl 0 rfl) ?_
      refine hh_getr X h fm_0_11 in_X9_settle_X9 km_0 (by decide) (List.mem_of_getElem? (i := 2) rfl) rfl dX9_settle_24 ?_
      refine lv_iload_n hx hb1 dX9_settle_27 rfl (lv_at hl 1 rfl) ?_
      obtain ⟨h6, hq⟩ := hq
      refine hh_ild X h am_9 h6 dX9_settle_28 ?_
      refine lv_topi (fun v7 ev7 => ?_)
      have hq := hq v7 ev7
      refine lv_istore_n (lv' := [(3, .int v7), (0, .ref (ad 0)), (1, .int x1), (2, .int x2)]) hx hb1 dX9_settle_29 rfl hl (by decide) rfl (fun ls hl => ?_)
      refine lv_aload_n hx hb1 dX9_settle_30 rfl (lv_at hl 1 rfl) ?_
      refine hh_getr X h fm_0_11 in_X9_settle_X9 km_0 (by decide) (List.mem_of_getElem? (i := 2) rfl) rfl dX9_settle_31 ?_
      refine lv_iload_n hx hb1 dX9_settle_34 rfl (lv_at hl 2 rfl) ?_
      refine lv_iload_n hx hb1 dX9_settle_35 rfl (lv_at hl 3 rfl) ?_
      obtain ⟨h8, hq⟩ := hq
      refine hh_ist X h am_9 h8 dX9_settle_36 (fun σ9 H locs eσ9 h => ?_)
      have hq := hq σ9 eσ9
      refine lv_iload_n hx hb1 dX9_settle_37 rfl (lv_at hl 0 rfl) ?_
      exact hh_iret X h hr hlocks hq dX9_settle_38
    · have hq := hq.2 c5
      refine lv_bipush (v := (-3 : Int32)) hx hb1 dX9_settle_20 (by decide) ?_
      exact hh_iret X h hr hlocks hq dX9_settle_22
  · have hq := hq.2 c3
    refine lv_iconst (v := (-1 : Int32)) hx hb1 dX9_settle_9 (by decide) ?_
    exact hh_iret X h hr hlocks hq dX9_settle_10
