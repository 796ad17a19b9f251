theorem nd_X8_seekHelp : yX8_seekHelp.cls = RX8 ∧ yX8_seekHelp.cls ≠ "java/lang/invoke/MethodHandle" ∧ yX8_seekHelp.cls ≠ "java/lang/invoke/VarHandle" ∧ (parseMethodDescriptor yX8_seekHelp.desc).map (fun d => d.parameters.length) = some 0 := by decide +kernel
abbrev rm_X8_seekHelp : Room := { frames := 3, cells := 0, slots := 0, locals := 92 }
def wq_X8_seekHelp_20 (Q : hh_S → Prop) (K20 : Int32 → hh_S → Prop) (x1 : Int32) (σ : hh_S) : Prop := (((hh_I σ 256) ≤ x1 → (Q σ)) ∧ (¬ (hh_I σ 256) ≤ x1 → (wp_X1_isFree x1 σ (fun (r2 : Int32) (σ3 : hh_S) => ((r2 = 0 → (K20 (x1 + (1 : Int32)) σ3)) ∧ (¬ r2 = 0 → (wp_X8_isOpen x1 σ3 (fun (r5 : Int32) (σ6 : hh_S) => ((r5 = 0 → (K20 (x1 + (1 : Int32)) σ6)) ∧ (¬ r5 = 0 → (wp_X8_seekHandFor x1 σ6 (fun (σ9 : hh_S) => (K20 (x1 + (1 : Int32)) σ9)))))))))))))
def wp_X8_seekHelp (σ : hh_S) (Q : hh_S → Prop) : Prop := (∀ σ10 : hh_S, σ10 = hh_uI σ 10 (-6 : Int32) → (∀ σ11 : hh_S, σ11 = hh_uI σ10 11 (-6 : Int32) → (∀ σ12 : hh_S, σ12 = hh_uI σ11 12 (-6 : Int32) → (∃ n : Nat, hh_lp1 (wq_X8_seekHelp_20 Q) n (0 : Int32) σ12))))
theorem in_X8_seekHelp_X8 : ∀ w ∈ u_ws RX8 TX8 13, w ∈ wsX8_seekHelp := fun w h => List.mem_cons_of_mem _ (List.mem_append_left _ (List.mem_append_left _ (List.mem_append_left _ (List.mem_append_left _ (List.mem_append_right _ h)))))
theorem in_X8_seekHelp_X1 : ∀ w ∈ u_ws RX1 TX1 7, w ∈ wsX8_seekHelp := fun w h => List.mem_cons_of_mem _ (List.mem_append_left _ (List.mem_append_left _ (List.mem_append_left _ (List.mem_append_right _ h))))
theorem in_X8_seekHelp_X6 : ∀ w ∈ u_ws RX6 TX6 5, w ∈ wsX8_seekHelp := fun w h => List.mem_cons_of_mem _ (List.mem_append_left _ (List.mem_append_left _ (List.mem_append_right _ h)))
theorem in_X8_seekHelp_X2 : ∀ w ∈ u_ws RX2 TX2 9, w ∈ wsX8_seekHelp := fun w h => List.mem_cons_of_mem _ (List.mem_append_left _ (List.mem_append_right _ h))
theorem in_X8_seekHelp_X0 : ∀ w ∈ u_ws RX0 TX0 4, w ∈ wsX8_seekHelp := fun w h => List.mem_cons_of_mem _ (List.mem_append_right _ h)
set_option maxHeartbeats 4000000 in
set_option maxRecDepth 100000 in
theorem ad_X8_seekHelp {D : va_G} (l : Launch) {cy : Nat → ClassId} {ad : Nat → Nat} (J : hh_J hc_Y ad) (σ : hh_S) (Q : hh_S → Prop) (hq : wp_X8_seekHelp σ Q) : Met l yX8_seekHelp wsX8_seekHelp rm_X8_seekHelp (va_Pc [.ref (ad 0)] (hh_B D hh_cl hc_Y cy ad σ)) (va_Qv Q (hh_B D hh_cl hc_Y cy ad) (hh_A hc_Y ad)) 0 0 (hh_A hc_Y ad) := by
  refine Met.ofW (cc := cX8_seekHelp) (maxL := 2) (ret := none) (by decide) rfl ?_
  intro p e s m args below meth c s₁ B hml hv
  obtain ⟨hargs, hP0, hK0⟩ := hv
  have hr := B.returns
  have hlocks := B.notSynchronized
  have X : hh_X p m c cX8_seekHelp 2 s args wsX8_seekHelp RX8 D hh_cl hc_Y cy ad := ⟨⟨B.exec, B.bytes, hml, findClass_of_methodNamed B.named, atoms_spec (ws := wsX8_seekHelp) B.pre⟩, hK0, J⟩
  have hx := X.1.1
  have hb1 := X.1.2.1
  have h : hh_H D hh_cl hc_Y cy ad s.heap σ s.heap [] := ⟨hP0, va_S.rf⟩
  have lt_20 : ∀ (n : Nat) (x1 : Int32) (σ : hh_S) (H : Heap) (locs : List Loc) (ls : Array Slot), hh_lp1 (wq_X8_seekHelp_20 Q) n x1 σ → hh_H D hh_cl hc_Y cy ad s.heap σ H locs → lv_has ls 2 [(0, .ref (ad 0)), (1, .int x1)] → W p l e (headSpec wsX8_seekHelp rm_X8_seekHelp).room s m args below meth c H locs 0 0 (MQ below (va_Qv Q (hh_B D hh_cl hc_Y cy ad) (hh_A hc_Y ad)) args s 0 0 (hh_A hc_Y ad)) (F0 m 20 ls []) := by
    intro n
    induction n with
    | zero => intro x1 σ H locs ls hq h hl; exact hq.elim
    | succ n ih =>
      intro x1 σ H locs ls hq h hl
      have hq : wq_X8_seekHelp_20 Q (hh_lp1 (wq_X8_seekHelp_20 Q) n) x1 σ := hq
      unfold wq_X8_seekHelp_20 at hq
      refine lv_iload_n hx hb1 dX8_seekHelp_20 rfl (lv_at hl 1 rfl) ?_
      refine lv_aload_n hx hb1 dX8_seekHelp_21 rfl (lv_at hl 0 rfl) ?_
      refine hh_getr X h fc_0_2 in_X8_seekHelp_X8 kc_0 (by decide) (List.mem_of_getElem? (i := 4) rfl) rfl dX8_seekHelp_22 ?_
      refine hh_geti X h (q := 256) fc_4_0 rfl in_X8_seekHelp_X1 kc_4 (by decide) (List.mem_of_getElem? (i := 5) rfl) rfl dX8_seekHelp_25 ?_
      refine lv_icmp_ge (tgt := 61) hx hb1 dX8_seekHelp_28 (by decide) (fun c1 => ?_) (fun c1 => ?_)
      · have hq := hq.1 c1
        exact hh_vret X h hr hlocks hq dX8_seekHelp_61
      · have hq := hq.2 c1
        refine lv_aload_n hx hb1 dX8_seekHelp_31 rfl (lv_at hl 0 rfl) ?_
        refine hh_getr X h fc_0_2 in_X8_seekHelp_X8 kc_0 (by decide) (List.mem_of_getElem? (i := 4) rfl) rfl dX8_seekHelp_32 ?_
        refine lv_iload_n hx hb1 dX8_seekHelp_35 rfl (lv_at hl 1 rfl) ?_
        refine hh_kI h (va_runV (As := [.int x1]) (rest := []) X.1 (ad_X1_isFree (D := D) l J x1 σ _ hq) (cwV 1 X.1.2.2.2.2 gX8_seekHelp_X1_isFree rfl rfl rfl nd_X1_isFree ⟨Nat.le_of_ble_eq_true rfl, Nat.le_of_ble_eq_true rfl⟩) (hh_preV X h fc_4_0 kc_4 [.int x1]) rfl rfl hl.1 rfl (lv_room (Nat.le_of_ble_eq_true rfl)) dX8_seekHelp_36 ⟨Nat.le_of_ble_eq_true rfl, Nat.le_of_ble_eq_true rfl⟩) (fun r2 σ3 H locs hq h => ?_)
        refine lv_if_eq (tgt := 55) hx hb1 dX8_seekHelp_39 (by decide) (fun c4 => ?_) (fun c4 => ?_)
        · have hq := hq.1 c4
          refine lv_iinc (v := (x1 + (1 : Int32))) (lv' := [(1, .int (x1 + (1 : Int32))), (0, .ref (ad 0))]) hx hb1 dX8_seekHelp_55 hl (k := 1) rfl rfl (by decide) rfl (fun ls hl => ?_)
          refine lv_goto (tgt := 20) hx hb1 dX8_seekHelp_58 (by decide) ?_
          exact ih (x1 + (1 : Int32)) σ3 _ _ ls hq h (lv_sub hl [1, 0] rfl)
        · have hq := hq.2 c4
          refine lv_aload_n hx hb1 dX8_seekHelp_42 rfl (lv_at hl 0 rfl) ?_
          refine lv_iload_n hx hb1 dX8_seekHelp_43 rfl (lv_at hl 1 rfl) ?_
          refine hh_kI h (va_runV (As := [.int x1]) (rest := []) X.1 (ad_X8_isOpen (D := D) l J x1 σ3 _ hq) (cwV 1 X.1.2.2.2.2 gX8_seekHelp_X8_isOpen rfl rfl rfl nd_X8_isOpen ⟨Nat.le_of_ble_eq_true rfl, Nat.le_of_ble_eq_true rfl⟩) (hh_preV X h fc_0_0 kc_0 [.int x1]) rfl rfl hl.1 rfl (lv_room (Nat.le_of_ble_eq_true rfl)) dX8_seekHelp_44 ⟨Nat.le_of_ble_eq_true rfl, Nat.le_of_ble_eq_true rfl⟩) (fun r5 σ6 H locs hq h => ?_)
          refine lv_if_eq (tgt := 55) hx hb1 dX8_seekHelp_47 (by decide) (fun c7 => ?_) (fun c7 => ?_)
          · have hq := hq.1 c7
            refine lv_iinc (v := (x1 + (1 : Int32))) (lv' := [(1, .int (x1 + (1 : Int32))), (0, .ref (ad 0))]) hx hb1 dX8_seekHelp_55 hl (k := 1) rfl rfl (by decide) rfl (fun ls hl => ?_)
            refine lv_goto (tgt := 20) hx hb1 dX8_seekHelp_58 (by decide) ?_
            exact ih (x1 + (1 : Int32)) σ6 _ _ ls hq h (lv_sub hl [1, 0] rfl)
          · have hq := hq.2 c7
            refine lv_aload_n hx hb1 dX8_seekHelp_50 rfl (lv_at hl 0 rfl) ?_
            refine lv_iload_n hx hb1 dX8_seekHelp_51 rfl (lv_at hl 1 rfl) ?_
            refine hh_kV h (va_runV (As := [.int x1]) (rest := []) X.1 (ad_X8_seekHandFor (D := D) l J x1 σ6 _ hq) (cwV 1 X.1.2.2.2.2 gX8_seekHelp_X8_seekHandFor rfl rfl rfl nd_X8_seekHandFor ⟨Nat.le_of_ble_eq_true rfl, Nat.le_of_ble_eq_true rfl⟩) (hh_preV X h fc_0_0 kc_0 [.int x1]) rfl rfl hl.1 rfl (lv_room (Nat.le_of_ble_eq_true rfl)) dX8_seekHelp_52 ⟨Nat.le_of_ble_eq_true rfl, Nat.le_of_ble_eq_true rfl⟩) (fun σ9 H locs hq h => ?_)
            refine lv_iinc (v := (x1 + (1 : Int32))) (lv' := [(1, .int (x1 + (1 : Int32))), (0, .ref (ad 0))]) hx hb1 dX8_seekHelp_55 hl (k := 1) rfl rfl (by decide) rfl (fun ls hl => ?_)
            refine lv_goto (tgt := 20) hx hb1 dX8_seekHelp_58 (by decide) ?_
            exact ih (x1 + (1 : Int32)) σ9 _ _ ls hq h (lv_sub hl [1, 0] rfl)
  subst hargs
  refine hh_entry (vs := [.ref (ad 0)]) (Nat.le_of_ble_eq_true rfl) (fun ls hl => ?_)
  have hl : lv_has ls 2 [(0, .ref (ad 0))] := hl
  have hq : wp_X8_seekHelp σ Q := hq
  unfold wp_X8_seekHelp at hq
  refine lv_aload_n hx hb1 dX8_seekHelp_0 rfl (lv_at hl 0 rfl) ?_
  refine lv_bipush (v := (-6 : Int32)) hx hb1 dX8_seekHelp_1 (by decide) ?_
  refine hh_puti X h (q := 10) hc_n fc_0_10 rfl in_X8_seekHelp_X8 kc_0 tyX8 tyX8_ok nmX8 (by decide) (List.mem_of_getElem? (i := 1) rfl) rfl rfl rfl rfl dX8_seekHelp_3 (fun σ10 H locs eσ10 h => ?_)
  have hq := hq σ10 eσ10
  refine lv_aload_n hx hb1 dX8_seekHelp_6 rfl (lv_at hl 0 rfl) ?_
  refine lv_bipush (v := (-6 : Int32)) hx hb1 dX8_seekHelp_7 (by decide) ?_
  refine hh_puti X h (q := 11) hc_n fc_0_11 rfl in_X8_seekHelp_X8 kc_0 tyX8 tyX8_ok nmX8 (by decide) (List.mem_of_getElem? (i := 2) rfl) rfl rfl rfl rfl dX8_seekHelp_9 (fun σ11 H locs eσ11 h => ?_)
  have hq := hq σ11 eσ11
  refine lv_aload_n hx hb1 dX8_seekHelp_12 rfl (lv_at hl 0 rfl) ?_
  refine lv_bipush (v := (-6 : Int32)) hx hb1 dX8_seekHelp_13 (by decide) ?_
  refine hh_puti X h (q := 12) hc_n fc_0_12 rfl in_X8_seekHelp_X8 kc_0 tyX8 tyX8_ok nmX8 (by decide) (List.mem_of_getElem? (i := 3) rfl) rfl rfl rfl rfl dX8_seekHelp_15 (fun σ12 H locs eσ12 h => ?_)
  have hq := hq σ12 eσ12
  refine lv_iconst (v := (0 : Int32)) hx hb1 dX8_seekHelp_18 (by decide) ?_
  refine lv_istore_n (lv' := [(1, .int (0 : Int32)), (0, .ref (ad 0))]) hx hb1 dX8_seekHelp_19 rfl hl (by decide) rfl (fun ls hl => ?_)
  obtain ⟨n13, hq⟩ := hq
  exact lt_20 n13 (0 : Int32) σ12 _ _ ls hq h (lv_sub hl [1, 0] rfl)
theorem nd_X8_next : yX8_next.cls = RX8 ∧ yX8_next.cls ≠ "java/lang/invoke/MethodHandle" ∧ yX8_next.cls ≠ "java/lang/invoke/VarHandle" ∧ (parseMethodDescriptor yX8_next.desc).map (fun d => d.parameters.length) = some 1 := by decide +kernel
abbrev rm_X8_next : Room := { frames := 4, cells := 0, slots := 0, locals := 113 }
def wp_X8_next (x1 : Int32) (σ : hh_S) (Q : Int32 → hh_S → Prop) : Prop := ((x1 < 0 → (Q (-2 : Int32) σ)) ∧ (¬ x1 < 0 → ((x1 ≤ (2 : Int32) → (((hh_I σ 9) = (hh_I σ 320) → (wp_X8_seekHelp σ (fun (σ5 : hh_S) => ((¬ x1 = 0 → ((¬ x1 = (1 : Int32) → (Q (hh_I σ5 12) σ5)) ∧ (x1 = (1 : Int32) → (Q (hh_I σ5 11) σ5)))) ∧ (x1 = 0 → (Q (hh_I σ5 10) σ5)))))) ∧ (¬ (hh_I σ 9) = (hh_I σ 320) → (Q (-3 : Int32) σ)))) ∧ (¬ x1 ≤ (2 : Int32) → (Q (-2 : Int32) σ)))))
theorem in_X8_next_X8 : ∀ w ∈ u_ws RX8 TX8 13, w ∈ wsX8_next := fun w h => List.mem_cons_of_mem _ (List.mem_append_left _ (List.mem_append_left _ (List.mem_append_left _ (List.mem_append_left _ (List.mem_append_right _ h)))))
theorem in_X8_next_X0 : ∀ w ∈ u_ws RX0 TX0 4, w ∈ wsX8_next := fun w h => List.mem_cons_of_mem _ (List.mem_append_left _ (List.mem_append_left _ (List.mem_append_left _ (List.mem_append_right _ h))))
theorem in_X8_next_X1 : ∀ w ∈ u_ws RX1 TX1 7, w ∈ wsX8_next := fun w h => List.mem_cons_of_mem _ (List.mem_append_left _ (List.mem_append_left _ (List.mem_append_right _ h)))
theorem in_X8_next_X6 : ∀ w ∈ u_ws RX6 TX6 5, w ∈ wsX8_next := fun w h => List.mem_cons_of_mem _ (List.mem_append_left _ (List.mem_append_right _ h))
theorem in_X8_next_X2 : ∀ w ∈ u_ws RX2 TX2 9, w ∈ wsX8_next := fun w h => List.mem_cons_of_mem _ (List.mem_append_right _ h)
set_option maxHeartbeats 4000000 in
set_option maxRecDepth 100000 in
theorem ad_X8_next {D : va_G} (l : Launch) {cy : Nat → ClassId} {ad : Nat → Nat} (J : hh_J hc_Y ad) (x1 : Int32) (σ : hh_S) (Q : Int32 → hh_S → Prop) (hq : wp_X8_next x1 σ Q) : Met l yX8_next wsX8_next rm_X8_next (va_Pc [.ref (ad 0), .int x1] (hh_B D hh_cl hc_Y cy ad σ)) (va_Qi Q (hh_B D hh_cl hc_Y cy ad) (hh_A hc_Y ad)) 0 0 (hh_A hc_Y ad) := by
  refine Met.ofW (cc := cX8_next) (maxL := 2) (ret := (some .int)) (by decide) rfl ?_
  intro p e s m args below meth c s₁ B hml hv
  obtain ⟨hargs, hP0, hK0⟩ := hv
  have hr := B.returns
  have hlocks := B.notSynchronized
  have X : hh_X p m c cX8_next 2 s args wsX8_next RX8 D hh_cl hc_Y cy ad := ⟨⟨B.exec, B.bytes, hml, findClass_of_methodNamed B.named, atoms_spec (ws := wsX8_next) B.pre⟩, hK0, J⟩
  have hx := X.1.1
  have hb1 := X.1.2.1
  have h : hh_H D hh_cl hc_Y cy ad s.heap σ s.heap [] := ⟨hP0, va_S.rf⟩
  subst hargs
  refine hh_entry (vs := [.ref (ad 0), .int x1]) (Nat.le_of_ble_eq_true rfl) (fun ls hl => ?_)
  have hl : lv_has ls 2 [(0, .ref (ad 0)), (1, .int x1)] := hl
  have hq : wp_X8_next x1 σ Q := hq
  unfold wp_X8_next at hq
  refine lv_iload_n hx hb1 dX8_next_0 rfl (lv_at hl 1 rfl) ?_
  refine lv_if_lt (tgt := 9) hx hb1 dX8_next_1 (by decide) (fun c1 => ?_) (fun c1 => ?_)
  · have hq := hq.1 c1
    refine lv_bipush (v := (-2 : Int32)) hx hb1 dX8_next_9 (by decide) ?_
    exact hh_iret X h hr hlocks hq dX8_next_11
  · have hq := hq.2 c1
    refine lv_iload_n hx hb1 dX8_next_4 rfl (lv_at hl 1 rfl) ?_
    refine lv_iconst (v := (2 : Int32)) hx hb1 dX8_next_5 (by decide) ?_
    refine lv_icmp_le (tgt := 12) hx hb1 dX8_next_6 (by decide) (fun c2 => ?_) (fun c2 => ?_)
    · have hq := hq.1 c2
      refine lv_aload_n hx hb1 dX8_next_12 rfl (lv_at hl 0 rfl) ?_
      refine hh_geti X h (q := 9) fc_0_9 rfl in_X8_next_X8 kc_0 (by decide) (List.mem_of_getElem? (i := 1) rfl) rfl dX8_next_13 ?_
      refine lv_aload_n hx hb1 dX8_next_16 rfl (lv_at hl 0 rfl) ?_
      refine hh_getr X h fc_0_3 in_X8_next_X8 kc_0 (by decide) (List.mem_of_getElem? (i := 2) rfl) rfl dX8_next_17 ?_
      refine hh_geti X h (q := 320) fc_5_0 rfl in_X8_next_X0 kc_5 (by decide) (List.mem_of_getElem? (i := 3) rfl) rfl dX8_next_20 ?_
      refine lv_icmp_eq (tgt := 29) hx hb1 dX8_next_23 (by decide) (fun c3 => ?_) (fun c3 => ?_)
      · have hq := hq.1 c3
        refine lv_aload_n hx hb1 dX8_next_29 rfl (lv_at hl 0 rfl) ?_
        refine hh_kV h (va_runV (As := []) (rest := []) X.1 (ad_X8_seekHelp (D := D) l J σ _ hq) (cwV 0 X.1.2.2.2.2 gX8_next_X8_seekHelp rfl rfl rfl nd_X8_seekHelp ⟨Nat.le_of_ble_eq_true rfl, Nat.le_of_ble_eq_true rfl⟩) (hh_preV X h fc_0_0 kc_0 []) rfl rfl hl.1 rfl (lv_room (Nat.le_of_ble_eq_true rfl)) dX8_next_30 ⟨Nat.le_of_ble_eq_true rfl, Nat.le_of_ble_eq_true rfl⟩) (fun σ5 H locs hq h => ?_)
        refine lv_iload_n hx hb1 dX8_next_33 rfl (lv_at hl 1 rfl) ?_
        refine lv_if_ne (tgt := 42) hx hb1 dX8_next_34 (by decide) (fun c6 => ?_) (fun c6 => ?_)
        · have hq := hq.1 c6
          refine lv_iload_n hx hb1 dX8_next_42 rfl (lv_at hl 1 rfl) ?_
          refine lv_iconst (v := (1 : Int32)) hx hb1 dX8_next_43 (by decide) ?_
          refine lv_icmp_ne (tgt := 54) hx hb1 dX8_next_44 (by decide) (fun c7 => ?_) (fun c7 => ?_)
          · have hq := hq.1 c7
            refine lv_aload_n hx hb1 dX8_next_54 rfl (lv_at hl 0 rfl) ?_
            refine hh_geti X h (q := 12) fc_0_12 rfl in_X8_next_X8 kc_0 (by decide) (List.mem_of_getElem? (i := 6) rfl) rfl dX8_next_55 ?_
            exact hh_iret X h hr hlocks hq dX8_next_58
          · have hq := hq.2 c7
            refine lv_aload_n hx hb1 dX8_next_47 rfl (lv_at hl 0 rfl) ?_
            refine hh_geti X h (q := 11) fc_0_11 rfl in_X8_next_X8 kc_0 (by decide) (List.mem_of_getElem? (i := 5) rfl) rfl dX8_next_48 ?_
            refine lv_goto (tgt := 58) hx hb1 dX8_next_51 (by decide) ?_
            exact hh_iret X h hr hlocks hq dX8_next_58
        · have hq := hq.2 c6
          refine lv_aload_n hx hb1 dX8_next_37 rfl (lv_at hl 0 rfl) ?_
          refine hh_geti X h (q := 10) fc_0_10 rfl in_X8_next_X8 kc_0 (by decide) (List.mem_of_getElem? (i := 4) rfl) rfl dX8_next_38 ?_
          exact hh_iret X h hr hlocks hq dX8_next_41
      · have hq := hq.2 c3
        refine lv_bipush (v := (-3 : Int32)) hx hb1 dX8_next_26 (by decide) ?_
        exact hh_iret X h hr hlocks hq dX8_next_28
    · have hq := hq.2 c2
      refine lv_bipush (v := (-2 : Int32)) hx hb1 dX8_next_9 (by decide) ?_
      exact hh_iret X h hr hlocks hq dX8_next_11
theorem nd_X8_answersOf : yX8_answersOf.cls = RX8 ∧ yX8_answersOf.cls ≠ "java/lang/invoke/MethodHandle" ∧ yX8_answersOf.cls ≠ "java/lang/invoke/VarHandle" ∧ (parseMethodDescriptor yX8_answersOf.desc).map (fun d => d.parameters.length) = some 1 := by decide +kernel
abbrev rm_X8_answersOf : Room := { frames := 1, cells := 0, slots := 0, locals := 22 }
def wq_X8_answersOf_4 (x1 : Int32) (Q : Int32 → hh_S → Prop) (K4 : Int32 → Int32 → hh_S → Prop) (x2 : Int32) (x3 : Int32) (σ : hh_S) : Prop := (((hh_I σ 256) ≤ x3 → (Q x2 σ)) ∧ (¬ (hh_I σ 256) ≤ x3 → (wp_X0_counts x1 x3 σ (fun (r2 : Int32) (σ3 : hh_S) => ((r2 = 0 → (∀ v5 : Int32, v5 = (x2 + (0 : Int32)) → (K4 v5 (x3 + (1 : Int32)) σ3))) ∧ (¬ r2 = 0 → (∀ v6 : Int32, v6 = (x2 + (1 : Int32)) → (K4 v6 (x3 + (1 : Int32)) σ3))))))))
def wp_X8_answersOf (x1 : Int32) (σ : hh_S) (Q : Int32 → hh_S → Prop) : Prop := (∃ n : Nat, hh_lp2 (wq_X8_answersOf_4 x1 Q) n (0 : Int32) (0 : Int32) σ)
theorem in_X8_answersOf_X8 : ∀ w ∈ u_ws RX8 TX8 13, w ∈ wsX8_answersOf := fun w h => List.mem_cons_of_mem _ (List.mem_append_left _ (List.mem_append_left _ (List.mem_append_right _ h)))
theorem in_X8_answersOf_X1 : ∀ w ∈ u_ws RX1 TX1 7, w ∈ wsX8_answersOf := fun w h => List.mem_cons_of_mem _ (List.mem_append_left _ (List.mem_append_right _ h))
theorem in_X8_answersOf_X0 : ∀ w ∈ u_ws RX0 TX0 4, w ∈ wsX8_answersOf := fun w h => List.mem_cons_of_mem _ (List.mem_append_right _ h)
set_option maxHeartbeats 4000000 in
set_option maxRecDepth 100000 in
theorem ad_X8_answersOf {D : va_G} (l : Launch) {cy : Nat → ClassId} {ad : Nat → Nat} (J : hh_J hc_Y ad) (x1 : Int32) (σ : hh_S) (Q : Int32 → hh_S → Prop) (hq : wp_X8_answersOf x1 σ Q) : Met l yX8_answersOf wsX8_answersOf rm_X8_answersOf (va_Pc [.ref (ad 0), .int x1] (hh_B D hh_cl hc_Y cy ad σ)) (va_Qi Q (hh_B D hh_cl hc_Y cy ad) (hh_A hc_Y ad)) 0 0 (hh_A hc_Y ad) := by
  refine Met.ofW (cc := cX8_answersOf) (maxL := 4) (ret := (some .int)) (by decide) rfl ?_
  intro p e s m args below meth c s₁ B hml hv
  obtain ⟨hargs, hP0, hK0⟩ := hv
  have hr := B.returns
  have hlocks := B.notSynchronized
  have X : hh_X p m c cX8_answersOf 4 s args wsX8_answersOf RX8 D hh_cl hc_Y cy ad := ⟨⟨B.exec, B.bytes, hml, findClass_of_methodNamed B.named, atoms_spec (ws := wsX8_answersOf) B.pre⟩, hK0, J⟩
  have hx := X.1.1
  have hb1 := X.1.2.1
  have h : hh_H D hh_cl hc_Y cy ad s.heap σ s.heap [] := ⟨hP0, va_S.rf⟩
  have lt_4 : ∀ (x1 : Int32) (n : Nat) (x2 : Int32) (x3 : Int32) (σ : hh_S) (H : Heap) (locs : List Loc) (ls : Array Slot), hh_lp2 (wq_X8_answersOf_4 x1 Q) n x2 x3 σ → hh_H D hh_cl hc_Y cy ad s.heap σ H locs → lv_has ls 4 [(0, .ref (ad 0)), (1, .int x1), (2, .int x2), (3, .int x3)] → W p l e (headSpec wsX8_answersOf rm_X8_answersOf).room s m args below meth c H locs 0 0 (MQ below (va_Qi Q (hh_B D hh_cl hc_Y cy ad) (hh_A hc_Y ad)) args s 0 0 (hh_A hc_Y ad)) (F0 m 4 ls []) := by
    intro x1 n
    induction n with
    | zero => intro x2 x3 σ H locs ls hq h hl; exact hq.elim
    | succ n ih =>
      intro x2 x3 σ H locs ls hq h hl
      have hq : wq_X8_answersOf_4 x1 Q (hh_lp2 (wq_X8_answersOf_4 x1 Q) n) x2 x3 σ := hq
      unfold wq_X8_answersOf_4 at hq
      refine lv_iload_n hx hb1 dX8_answersOf_4 rfl (lv_at hl 3 rfl) ?_
      refine lv_aload_n hx hb1 dX8_answersOf_5 rfl (lv_at hl 0 rfl) ?_
      refine hh_getr X h fc_0_2 in_X8_answersOf_X8 kc_0 (by decide) (List.mem_of_getElem? (i := 1) rfl) rfl dX8_answersOf_6 ?_
      refine hh_geti X h (q := 256) fc_4_0 rfl in_X8_answersOf_X1 kc_4 (by decide) (List.mem_of_getElem? (i := 2) rfl) rfl dX8_answersOf_9 ?_
      refine lv_icmp_ge (tgt := 41) hx hb1 dX8_answersOf_12 (by decide) (fun c1 => ?_) (fun c1 => ?_)
      · have hq := hq.1 c1
        refine lv_iload_n hx hb1 dX8_answersOf_41 rfl (lv_at hl 2 rfl) ?_
        exact hh_iret X h hr hlocks hq dX8_answersOf_42
      · have hq := hq.2 c1
        refine lv_iload_n hx hb1 dX8_answersOf_15 rfl (lv_at hl 2 rfl) ?_
        refine lv_aload_n hx hb1 dX8_answersOf_16 rfl (lv_at hl 0 rfl) ?_
        refine hh_getr X h fc_0_3 in_X8_answersOf_X8 kc_0 (by decide) (List.mem_of_getElem? (i := 3) rfl) rfl dX8_answersOf_17 ?_
        refine lv_iload_n hx hb1 dX8_answersOf_20 rfl (lv_at hl 1 rfl) ?_
        refine lv_iload_n hx hb1 dX8_answersOf_21 rfl (lv_at hl 3 rfl) ?_
        refine hh_kI h (va_runV (As := [.int x1, .int x3]) (rest := [.int x2]) X.1 (ad_X0_counts (D := D) l J x1 x3 σ _ hq) (cwV 2 X.1.2.2.2.2 gX8_answersOf_X0_counts rfl rfl rfl nd_X0_counts ⟨Nat.le_of_ble_eq_true rfl, Nat.le_of_ble_eq_true rfl⟩) (hh_preV X h fc_5_0 kc_5 [.int x1, .int x3]) rfl rfl hl.1 rfl (lv_room (Nat.le_of_ble_eq_true rfl)) dX8_answersOf_22 ⟨Nat.le_of_ble_eq_true rfl, Nat.le_of_ble_eq_true rfl⟩) (fun r2 σ3 H locs hq h => ?_)
        refine lv_if_eq (tgt := 32) hx hb1 dX8_answersOf_25 (by decide) (fun c4 => ?_) (fun c4 => ?_)
        · have hq := hq.1 c4
          refine lv_iconst (v := (0 : Int32)) hx hb1 dX8_answersOf_32 (by decide) ?_
          refine lv_iadd hx hb1 dX8_answersOf_33 ?_
          refine lv_topi (fun v5 ev5 => ?_)
          have hq := hq v5 ev5
          refine lv_istore_n (lv' := [(2, .int v5), (0, .ref (ad 0)), (1, .int x1), (3, .int x3)]) hx hb1 dX8_answersOf_34 rfl hl (by decide) rfl (fun ls hl => ?_)
          refine lv_iinc (v := (x3 + (1 : Int32))) (lv' := [(3, .int (x3 + (1 : Int32))), (2, .int v5), (0, .ref (ad 0)), (1, .int x1)]) hx hb1 dX8_answersOf_35 hl (k := 3) rfl rfl (by decide) rfl (fun ls hl => ?_)
          refine lv_goto (tgt := 4) hx hb1 dX8_answersOf_38 (by decide) ?_
          exact ih v5 (x3 + (1 : Int32)) σ3 _ _ ls hq h (lv_sub hl [2, 3, 1, 0] rfl)
        · have hq := hq.2 c4
          refine lv_iconst (v := (1 : Int32)) hx hb1 dX8_answersOf_28 (by decide) ?_
          refine lv_goto (tgt := 33) hx hb1 dX8_answersOf_29 (by decide) ?_
          refine lv_iadd hx hb1 dX8_answersOf_33 ?_
          refine lv_topi (fun v6 ev6 => ?_)
          have hq := hq v6 ev6
          refine lv_istore_n (lv' := [(2, .int v6), (0, .ref (ad 0)), (1, .int x1), (3, .int x3)]) hx hb1 dX8_answersOf_34 rfl hl (by decide) rfl (fun ls hl => ?_)
          refine lv_iinc (v := (x3 + (1 : Int32))) (lv' := [(3, .int (x3 + (1 : Int32))), (2, .int v6), (0, .ref (ad 0)), (1, .int x1)]) hx hb1 dX8_answersOf_35 hl (k := 3) rfl rfl (by decide) rfl (fun ls hl => ?_)
          refine lv_goto (tgt := 4) hx hb1 dX8_answersOf_38 (by decide) ?_
          exact ih v6 (x3 + (1 : Int32)) σ3 _ _ ls hq h (lv_sub hl [2, 3, 1, 0] rfl)
  subst hargs
  refine hh_entry (vs := [.ref (ad 0), .int x1]) (Nat.le_of_ble_eq_true rfl) (fun ls hl => ?_)
  have hl : lv_has ls 4 [(0, .ref (ad 0)), (1, .int x1)] := hl
  have hq : wp_X8_answersOf x1 σ Q := hq
  unfold wp_X8_answersOf at hq
  refine lv_iconst (v := (0 : Int32)) hx hb1 dX8_answersOf_0 (by decide) ?_
  refine lv_istore_n (lv' := [(2, .int (0 : Int32)), (0, .ref (ad 0)), (1, .int x1)]) hx hb1 dX8_answersOf_1 rfl hl (by decide) rfl (fun ls hl => ?_)
  refine lv_iconst (v := (0 : Int32)) hx hb1 dX8_answersOf_2 (by decide) ?_
  refine lv_istore_n (lv' := [(3, .int (0 : Int32)), (2, .int (0 : Int32)), (0, .ref (ad 0)), (1, .int x1)]) hx hb1 dX8_answersOf_3 rfl hl (by decide) rfl (fun ls hl => ?_)
  obtain ⟨n7, hq⟩ := hq
  exact lt_4 x1 n7 (0 : Int32) (0 : Int32) σ _ _ ls hq h (lv_sub hl [2, 3, 1, 0] rfl)
theorem nd_X8_isToKnown : yX8_isToKnown.cls = RX8 ∧ yX8_isToKnown.cls ≠ "java/lang/invoke/MethodHandle" ∧ yX8_isToKnown.cls ≠ "java/lang/invoke/VarHandle" ∧ (parseMethodDescriptor yX8_isToKnown.desc).map (fun d => d.parameters.length) = some 2 := by decide +kernel
abbrev rm_X8_isToKnown : Room := { frames := 1, cells := 0, slots := 0, locals := 22 }
def wp_X8_isToKnown (x1 : Int32) (x2 : Int32) (σ : hh_S) (Q : Int32 → hh_S → Prop) : Prop := (wp_X0_counts x1 x2 σ (fun (r1 : Int32) (σ2 : hh_S) => ((r1 = 0 → (Q (0 : Int32) σ2)) ∧ (¬ r1 = 0 → (vp_in x2 24 ∧ (((hh_rA σ2 23 x2) = (-6 : Int32) → (Q (0 : Int32) σ2)) ∧ (¬ (hh_rA σ2 23 x2) = (-6 : Int32) → (Q (1 : Int32) σ2))))))))
theorem in_X8_isToKnown_X8 : ∀ w ∈ u_ws RX8 TX8 13, w ∈ wsX8_isToKnown := fun w h => List.mem_cons_of_mem _ (List.mem_append_left _ (List.mem_append_left _ (List.mem_append_right _ h)))
theorem in_X8_isToKnown_X1 : ∀ w ∈ u_ws RX1 TX1 7, w ∈ wsX8_isToKnown := fun w h => List.mem_cons_of_mem _ (List.mem_append_left _ (List.mem_append_right _ h))
theorem in_X8_isToKnown_X0 : ∀ w ∈ u_ws RX0 TX0 4, w ∈ wsX8_isToKnown := fun w h => List.mem_cons_of_mem _ (List.mem_append_right _ h)
set_option maxHeartbeats 4000000 in
set_option maxRecDepth 100000 in
theorem ad_X8_isToKnown {D : va_G} (l : Launch) {cy : Nat → ClassId} {ad : Nat → Nat} (J : hh_J hc_Y ad) (x1 : Int32) (x2 : Int32) (σ : hh_S) (Q : Int32 → hh_S → Prop) (hq : wp_X8_isToKnown x1 x2 σ Q) : Met l yX8_isToKnown wsX8_isToKnown rm_X8_isToKnown (va_Pc [.ref (ad 0), .int x1, .int x2] (hh_B D hh_cl hc_Y cy ad σ)) (va_Qi Q (hh_B D hh_cl hc_Y cy ad) (hh_A hc_Y ad)) 0 0 (hh_A hc_Y ad) := by
  refine Met.ofW (cc := cX8_isToKnown) (maxL := 3) (ret := (some .boolean)) (by decide) rfl ?_
  intro p e s m args below meth c s₁ B hml hv
  obtain ⟨hargs, hP0, hK0⟩ := hv
  have hr := B.returns
  have hlocks := B.notSynchronized
  have X : hh_X p m c cX8_isToKnown 3 s args wsX8_isToKnown RX8 D hh_cl hc_Y cy ad := ⟨⟨B.exec, B.bytes, hml, findClass_of_methodNamed B.named, atoms_spec (ws := wsX8_isToKnown) B.pre⟩, hK0, J⟩
  have hx := X.1.1
  have hb1 := X.1.2.1
  have h : hh_H D hh_cl hc_Y cy ad s.heap σ s.heap [] := ⟨hP0, va_S.rf⟩
  subst hargs
  refine hh_entry (vs := [.ref (ad 0), .int x1, .int x2]) (Nat.le_of_ble_eq_true rfl) (fun ls hl => ?_)
  have hl : lv_has ls 3 [(0, .ref (ad 0)), (1, .int x1), (2, .int x2)] := hl
  have hq : wp_X8_isToKnown x1 x2 σ Q := hq
  unfold wp_X8_isToKnown at hq
  refine lv_aload_n hx hb1 dX8_isToKnown_0 rfl (lv_at hl 0 rfl) ?_
  refine hh_getr X h fc_0_3 in_X8_isToKnown_X8 kc_0 (by decide) (List.mem_of_getElem? (i := 1) rfl) rfl dX8_isToKnown_1 ?_
  refine lv_iload_n hx hb1 dX8_isToKnown_4 rfl (lv_at hl 1 rfl) ?_
  refine lv_iload_n hx hb1 dX8_isToKnown_5 rfl (lv_at hl 2 rfl) ?_
  refine hh_kI h (va_runV (As := [.int x1, .int x2]) (rest := []) X.1 (ad_X0_counts (D := D) l J x1 x2 σ _ hq) (cwV 2 X.1.2.2.2.2 gX8_isToKnown_X0_counts rfl rfl rfl nd_X0_counts ⟨Nat.le_of_ble_eq_true rfl, Nat.le_of_ble_eq_true rfl⟩) (hh_preV X h fc_5_0 kc_5 [.int x1, .int x2]) rfl rfl hl.1 rfl (lv_room (Nat.le_of_ble_eq_true rfl)) dX8_isToKnown_6 ⟨Nat.le_of_ble_eq_true rfl, Nat.le_of_ble_eq_true rfl⟩) (fun r1 σ2 H locs hq h => ?_)
  refine lv_if_eq (tgt := 30) hx hb1 dX8_isToKnown_9 (by decide) (fun c3 => ?_) (fun c3 => ?_)
  · have hq := hq.1 c3
    refine lv_iconst (v := (0 : Int32)) hx hb1 dX8_isToKnown_30 (by decide) ?_
    exact hh_zret X h hr hlocks rfl hq dX8_isToKnown_31
  · have hq := hq.2 c3
    refine lv_aload_n hx hb1 dX8_isToKnown_12 rfl (lv_at hl 0 rfl) ?_
    refine hh_getr X h fc_0_2 in_X8_isToKnown_X8 kc_0 (by decide) (List.mem_of_getElem? (i := 2) rfl) rfl dX8_isToKnown_13 ?_
    refine hh_getr X h fc_4_4 in_X8_isToKnown_X1 kc_4 (by decide) (List.mem_of_getElem? (i := 3) rfl) rfl dX8_isToKnown_16 ?_
    refine lv_iload_n hx hb1 dX8_isToKnown_19 rfl (lv_at hl 2 rfl) ?_
    obtain ⟨h4, hq⟩ := hq
    refine hh_ild X h ac_23 h4 dX8_isToKnown_20 ?_
    refine lv_bipush (v := (-6 : Int32)) hx hb1 dX8_isToKnown_21 (by decide) ?_
    refine lv_icmp_eq (tgt := 30) hx hb1 dX8_isToKnown_23 (by decide) (fun c5 => ?_) (fun c5 => ?_)
    · have hq := hq.1 c5
      refine lv_iconst (v := (0 : Int32)) hx hb1 dX8_isToKnown_30 (by decide) ?_
      exact hh_zret X h hr hlocks rfl hq dX8_isToKnown_31
    · have hq := hq.2 c5
      refine lv_iconst (v := (1 : Int32)) hx hb1 dX8_isToKnown_26 (by decide) ?_
      refine lv_goto (tgt := 31) hx hb1 dX8_isToKnown_27 (by decide) ?_
      exact hh_zret X h hr hlocks rfl hq dX8_isToKnown_31
theorem nd_X8_answersToKnown : yX8_answersToKnown.cls = RX8 ∧ yX8_answersToKnown.cls ≠ "java/lang/invoke/MethodHandle" ∧ yX8_answersToKnown.cls ≠ "java/lang/invoke/VarHandle" ∧ (parseMethodDescriptor yX8_answersToKnown.desc).map (fun d => d.parameters.length) = some 1 := by decide +kernel
abbrev rm_X8_answersToKnown : Room := { frames := 2, cells := 0, slots := 0, locals := 44 }
def wq_X8_answersToKnown_4 (x1 : Int32) (Q : Int32 → hh_S → Prop) (K4 : Int32 → Int32 → hh_S → Prop) (x2 : Int32) (x3 : Int32) (σ : hh_S) : Prop := (((hh_I σ 256) ≤ x3 → (Q x2 σ)) ∧ (¬ (hh_I σ 256) ≤ x3 → (wp_X8_isToKnown x1 x3 σ (fun (r2 : Int32) (σ3 : hh_S) => ((r2 = 0 → (∀ v5 : Int32, v5 = (x2 + (0 : Int32)) → (K4 v5 (x3 + (1 : Int32)) σ3))) ∧ (¬ r2 = 0 → (∀ v6 : Int32, v6 = (x2 + (1 : Int32)) → (K4 v6 (x3 + (1 : Int32)) σ3))))))))
def wp_X8_answersToKnown (x1 : Int32) (σ : hh_S) (Q : Int32 → hh_S → Prop) : Prop := (∃ n : Nat, hh_lp2 (wq_X8_answersToKnown_4 x1 Q) n (0 : Int32) (0 : Int32) σ)
theorem in_X8_answersToKnown_X8 : ∀ w ∈ u_ws RX8 TX8 13, w ∈ wsX8_answersToKnown := fun w h => List.mem_cons_of_mem _ (List.mem_append_left _ (List.mem_append_left _ (List.mem_append_right _ h)))
theorem in_X8_answersToKnown_X1 : ∀ w ∈ u_ws RX1 TX1 7, w ∈ wsX8_answersToKnown := fun w h => List.mem_cons_of_mem _ (List.mem_append_left _ (List.mem_append_right _ h))
theorem in_X8_answersToKnown_X0 : ∀ w ∈ u_ws RX0 TX0 4, w ∈ wsX8_answersToKnown := fun w h => List.mem_cons_of_mem _ (List.mem_append_right _ h)
set_option maxHeartbeats 4000000 in
set_option maxRecDepth 100000 in
theorem ad_X8_answersToKnown {D : va_G} (l : Launch) {cy : Nat → ClassId} {ad : Nat → Nat} (J : hh_J hc_Y ad) (x1 : Int32) (σ : hh_S) (Q : Int32 → hh_S → Prop) (hq : wp_X8_answersToKnown x1 σ Q) : Met l yX8_answersToKnown wsX8_answersToKnown rm_X8_answersToKnown (va_Pc [.ref (ad 0), .int x1] (hh_B D hh_cl hc_Y cy ad σ)) (va_Qi Q (hh_B D hh_cl hc_Y cy ad) (hh_A hc_Y ad)) 0 0 (hh_A hc_Y ad) := by
  refine Met.ofW (cc := cX8_answersToKnown) (maxL := 4) (ret := (some .int)) (by decide) rfl ?_
  intro p e s m args below meth c s₁ B hml hv
  obtain ⟨hargs, hP0, hK0⟩ := hv
  have hr := B.returns
  have hlocks := B.notSynchronized
  have X : hh_X p m c cX8_answersToKnown 4 s args wsX8_answersToKnown RX8 D hh_cl hc_Y cy ad := ⟨⟨B.exec, B.bytes, hml, findClass_of_methodNamed B.named, atoms_spec (ws := wsX8_answersToKnown) B.pre⟩, hK0, J⟩
  have hx := X.1.1
  have hb1 := X.1.2.1
  have h : hh_H D hh_cl hc_Y cy ad s.heap σ s.heap [] := ⟨hP0, va_S.rf⟩
  have lt_4 : ∀ (x1 : Int32) (n : Nat) (x2 : Int32) (x3 : Int32) (σ : hh_S) (H : Heap) (locs : List Loc) (ls : Array Slot), hh_lp2 (wq_X8_answersToKnown_4 x1 Q) n x2 x3 σ → hh_H D hh_cl hc_Y cy ad s.heap σ H locs → lv_has ls 4 [(0, .ref (ad 0)), (1, .int x1), (2, .int x2), (3, .int x3)] → W p l e (headSpec wsX8_answersToKnown rm_X8_answersToKnown).room s m args below meth c H locs 0 0 (MQ below (va_Qi Q (hh_B D hh_cl hc_Y cy ad) (hh_A hc_Y ad)) args s 0 0 (hh_A hc_Y ad)) (F0 m 4 ls []) := by
    intro x1 n
    induction n with
    | zero => intro x2 x3 σ H locs ls hq h hl; exact hq.elim
    | succ n ih =>
      intro x2 x3 σ H locs ls hq h hl
      have hq : wq_X8_answersToKnown_4 x1 Q (hh_lp2 (wq_X8_answersToKnown_4 x1 Q) n) x2 x3 σ := hq
      unfold wq_X8_answersToKnown_4 at hq
      refine lv_iload_n hx hb1 dX8_answersToKnown_4 rfl (lv_at hl 3 rfl) ?_
      refine lv_aload_n hx hb1 dX8_answersToKnown_5 rfl (lv_at hl 0 rfl) ?_
      refine hh_getr X h fc_0_2 in_X8_answersToKnown_X8 kc_0 (by decide) (List.mem_of_getElem? (i := 1) rfl) rfl dX8_answersToKnown_6 ?_
      refine hh_geti X h (q := 256) fc_4_0 rfl in_X8_answersToKnown_X1 kc_4 (by decide) (List.mem_of_getElem? (i := 2) rfl) rfl dX8_answersToKnown_9 ?_
      refine lv_icmp_ge (tgt := 38) hx hb1 dX8_answersToKnown_12 (by decide) (fun c1 => ?_) (fun c1 => ?_)
      · have hq := hq.1 c1
        refine lv_iload_n hx hb1 dX8_answersToKnown_38 rfl (lv_at hl 2 rfl) ?_
        exact hh_iret X h hr hlocks hq dX8_answersToKnown_39
      · have hq := hq.2 c1
        refine lv_iload_n hx hb1 dX8_answersToKnown_15 rfl (lv_at hl 2 rfl) ?_
        refine lv_aload_n hx hb1 dX8_answersToKnown_16 rfl (lv_at hl 0 rfl) ?_
        refine lv_iload_n hx hb1 dX8_answersToKnown_17 rfl (lv_at hl 1 rfl) ?_
        refine lv_iload_n hx hb1 dX8_answersToKnown_18 rfl (lv_at hl 3 rfl) ?_
        refine hh_kI h (va_runV (As := [.int x1, .int x3]) (rest := [.int x2]) X.1 (ad_X8_isToKnown (D := D) l J x1 x3 σ _ hq) (cwV 2 X.1.2.2.2.2 gX8_answersToKnown_X8_isToKnown rfl rfl rfl nd_X8_isToKnown ⟨Nat.le_of_ble_eq_true rfl, Nat.le_of_ble_eq_true rfl⟩) (hh_preV X h fc_0_0 kc_0 [.int x1, .int x3]) rfl rfl hl.1 rfl (lv_room (Nat.le_of_ble_eq_true rfl)) dX8_answersToKnown_19 ⟨Nat.le_of_ble_eq_true rfl, Nat.le_of_ble_eq_true rfl⟩) (fun r2 σ3 H locs hq h => ?_)
        refine lv_if_eq (tgt := 29) hx hb1 dX8_answersToKnown_22 (by decide) (fun c4 => ?_) (fun c4 => ?_)
        · have hq := hq.1 c4
          refine lv_iconst (v := (0 : Int32)) hx hb1 dX8_answersToKnown_29 (by decide) ?_
          refine lv_iadd hx hb1 dX8_answersToKnown_30 ?_
          refine lv_topi (fun v5 ev5 => ?_)
          have hq := hq v5 ev5
          refine lv_istore_n (lv' := [(2, .int v5), (0, .ref (ad 0)), (1, .int x1), (3, .int x3)]) hx hb1 dX8_answersToKnown_31 rfl hl (by decide) rfl (fun ls hl => ?_)
          refine lv_iinc (v := (x3 + (1 : Int32))) (lv' := [(3, .int (x3 + (1 : Int32))), (2, .int v5), (0, .ref (ad 0)), (1, .int x1)]) hx hb1 dX8_answersToKnown_32 hl (k := 3) rfl rfl (by decide) rfl (fun ls hl => ?_)
          refine lv_goto (tgt := 4) hx hb1 dX8_answersToKnown_35 (by decide) ?_
          exact ih v5 (x3 + (1 : Int32)) σ3 _ _ ls hq h (lv_sub hl [2, 3, 1, 0] rfl)
        · have hq := hq.2 c4
          refine lv_iconst (v := (1 : Int32)) hx hb1 dX8_answersToKnown_25 (by decide) ?_
          refine lv_goto (tgt := 30) hx hb1 dX8_answersToKnown_26 (by decide) ?_
          refine lv_iadd hx hb1 dX8_answersToKnown_30 ?_
          refine lv_topi (fun v6 ev6 => ?_)
          have hq := hq v6 ev6
          refine lv_istore_n (lv' := [(2, .int v6), (0, .ref (ad 0)), (1, .int x1), (3, .int x3)]) hx hb1 dX8_answersToKnown_31 rfl hl (by decide) rfl (fun ls hl => ?_)
          refine lv_iinc (v := (x3 + (1 : Int32))) (lv' := [(3, .int (x3 + (1 : Int32))), (2, .int v6), (0, .ref (ad 0)), (1, .int x1)]) hx hb1 dX8_answersToKnown_32 hl (k := 3) rfl rfl (by decide) rfl (fun ls hl => ?_)
          refine lv_goto (tgt := 4) hx hb1 dX8_answersToKnown_35 (by decide) ?_
          exact ih v6 (x3 + (1 : Int32)) σ3 _ _ ls hq h (lv_sub hl [2, 3, 1, 0] rfl)
  subst hargs
  refine hh_entry (vs := [.ref (ad 0), .int x1]) (Nat.le_of_ble_eq_true rfl) (fun ls hl => ?_)
  have hl : lv_has ls 4 [(0, .ref (ad 0)), (1, .int x1)] := hl
  have hq : wp_X8_answersToKnown x1 σ Q := hq
  unfold wp_X8_answersToKnown at hq
  refine lv_iconst (v := (0 : Int32)) hx hb1 dX8_answersToKnown_0 (by decide) ?_
  refine lv_istore_n (lv' := [(2, .int (0 : Int32)), (0, .ref (ad 0)), (1, .int x1)]) hx hb1 dX8_answersToKnown_1 rfl hl (by decide) rfl (fun ls hl => ?_)
  refine lv_iconst (v := (0 : Int32)) hx hb1 dX8_answersToKnown_2 (by decide) ?_
  refine lv_istore_n (lv' := [(3, .int (0 : Int32)), (2, .int (0 : Int32)), (0, .ref (ad 0)), (1, .int x1)]) hx hb1 dX8_answersToKnown_3 rfl hl (by decide) rfl (fun ls hl => ?_)
  obtain ⟨n7, hq⟩ := hq
  exact lt_4 x1 n7 (0 : Int32) (0 : Int32) σ _ _ ls hq h (lv_sub hl [2, 3, 1, 0] rfl)
theorem nd_X8_isRight : yX8_isRight.cls = RX8 ∧ yX8_isRight.cls ≠ "java/lang/invoke/MethodHandle" ∧ yX8_isRight.cls ≠ "java/lang/invoke/VarHandle" ∧ (parseMethodDescriptor yX8_isRight.desc).map (fun d => d.parameters.length) = some 2 := by decide +kernel
abbrev rm_X8_isRight : Room := { frames := 2, cells := 0, slots := 0, locals := 44 }
def wp_X8_isRight (x1 : Int32) (x2 : Int32) (σ : hh_S) (Q : Int32 → hh_S → Prop) : Prop := (wp_X8_isToKnown x1 x2 σ (fun (r1 : Int32) (σ2 : hh_S) => ((r1 = 0 → (Q (0 : Int32) σ2)) ∧ (¬ r1 = 0 → (vp_in x1 10 ∧ (vp_in x2 24 ∧ (vp_in x2 24 ∧ ((¬ (hh_rA σ2 (45 + (x1).toNatClampNeg) x2) = (hh_rA σ2 23 x2) → (Q (0 : Int32) σ2)) ∧ ((hh_rA σ2 (45 + (x1).toNatClampNeg) x2) = (hh_rA σ2 23 x2) → (Q (1 : Int32) σ2))))))))))
theorem in_X8_isRight_X8 : ∀ w ∈ u_ws RX8 TX8 13, w ∈ wsX8_isRight := fun w h => List.mem_cons_of_mem _ (List.mem_append_left _ (List.mem_append_left _ (List.mem_append_right _ h)))
theorem in_X8_isRight_X0 : ∀ w ∈ u_ws RX0 TX0 4, w ∈ wsX8_isRight := fun w h => List.mem_cons_of_mem _ (List.mem_append_left _ (List.mem_append_right _ h))
theorem in_X8_isRight_X1 : ∀ w ∈ u_ws RX1 TX1 7, w ∈ wsX8_isRight := fun w h => List.mem_cons_of_mem _ (List.mem_append_right _ h)
set_option maxHeartbeats 4000000 in
set_option maxRecDepth 100000 in
theorem ad_X8_isRight {D : va_G} (l : Launch) {cy : Nat → ClassId} {ad : Nat → Nat} (J : hh_J hc_Y ad) (x1 : Int32) (x2 : Int32) (σ : hh_S) (Q : Int32 → hh_S → Prop) (hq : wp_X8_isRight x1 x2 σ Q) : Met l yX8_isRight wsX8_isRight rm_X8_isRight (va_Pc [.ref (ad 0), .int x1, .int x2] (hh_B D hh_cl hc_Y cy ad σ)) (va_Qi Q (hh_B D hh_cl hc_Y cy ad) (hh_A hc_Y ad)) 0 0 (hh_A hc_Y ad) := by
  refine Met.ofW (cc := cX8_isRight) (maxL := 3) (ret := (some .boolean)) (by decide) rfl ?_
  intro p e s m args below meth c s₁ B hml hv
  obtain ⟨hargs, hP0, hK0⟩ := hv
  have hr := B.returns
  have hlocks := B.notSynchronized
  have X : hh_X p m c cX8_isRight 3 s args wsX8_isRight RX8 D hh_cl hc_Y cy ad := ⟨⟨B.exec, B.bytes, hml, findClass_of_methodNamed B.named, atoms_spec (ws := wsX8_isRight) B.pre⟩, hK0, J⟩
  have hx := X.1.1
  have hb1 := X.1.2.1
  have h : hh_H D hh_cl hc_Y cy ad s.heap σ s.heap [] := ⟨hP0, va_S.rf⟩
  subst hargs
  refine hh_entry (vs := [.ref (ad 0), .int x1, .int x2]) (Nat.le_of_ble_eq_true rfl) (fun ls hl => ?_)
  have hl : lv_has ls 3 [(0, .ref (ad 0)), (1, .int x1), (2, .int x2)] := hl
  have hq : wp_X8_isRight x1 x2 σ Q := hq
  unfold wp_X8_isRight at hq
  refine lv_aload_n hx hb1 dX8_isRight_0 rfl (lv_at hl 0 rfl) ?_
  refine lv_iload_n hx hb1 dX8_isRight_1 rfl (lv_at hl 1 rfl) ?_
  refine lv_iload_n hx hb1 dX8_isRight_2 rfl (lv_at hl 2 rfl) ?_
  refine hh_kI h (va_runV (As := [.int x1, .int x2]) (rest := []) X.1 (ad_X8_isToKnown (D := D) l J x1 x2 σ _ hq) (cwV 2 X.1.2.2.2.2 gX8_isRight_X8_isToKnown rfl rfl rfl nd_X8_isToKnown ⟨Nat.le_of_ble_eq_true rfl, Nat.le_of_ble_eq_true rfl⟩) (hh_preV X h fc_0_0 kc_0 [.int x1, .int x2]) rfl rfl hl.1 rfl (lv_room (Nat.le_of_ble_eq_true rfl)) dX8_isRight_3 ⟨Nat.le_of_ble_eq_true rfl, Nat.le_of_ble_eq_true rfl⟩) (fun r1 σ2 H locs hq h => ?_)
  refine lv_if_eq (tgt := 36) hx hb1 dX8_isRight_6 (by decide) (fun c3 => ?_) (fun c3 => ?_)
  · have hq := hq.1 c3
    refine lv_iconst (v := (0 : Int32)) hx hb1 dX8_isRight_36 (by decide) ?_
    exact hh_zret X h hr hlocks rfl hq dX8_isRight_37
  · have hq := hq.2 c3
    refine lv_aload_n hx hb1 dX8_isRight_9 rfl (lv_at hl 0 rfl) ?_
    refine hh_getr X h fc_0_3 in_X8_isRight_X8 kc_0 (by decide) (List.mem_of_getElem? (i := 1) rfl) rfl dX8_isRight_10 ?_
    refine hh_getr X h fc_5_3 in_X8_isRight_X0 kc_5 (by decide) (List.mem_of_getElem? (i := 2) rfl) rfl dX8_isRight_13 ?_
    refine lv_iload_n hx hb1 dX8_isRight_16 rfl (lv_at hl 1 rfl) ?_
    obtain ⟨h4, hq⟩ := hq
    refine hh_ald X h ac_28 h4 dX8_isRight_17 ?_
    refine lv_iload_n hx hb1 dX8_isRight_18 rfl (lv_at hl 2 rfl) ?_
    obtain ⟨h5, hq⟩ := hq
    refine hh_ild X h (ar_said h4) h5 dX8_isRight_19 ?_
    refine lv_aload_n hx hb1 dX8_isRight_20 rfl (lv_at hl 0 rfl) ?_
    refine hh_getr X h fc_0_2 in_X8_isRight_X8 kc_0 (by decide) (List.mem_of_getElem? (i := 3) rfl) rfl dX8_isRight_21 ?_
    refine hh_getr X h fc_4_4 in_X8_isRight_X1 kc_4 (by decide) (List.mem_of_getElem? (i := 4) rfl) rfl dX8_isRight_24 ?_
    refine lv_iload_n hx hb1 dX8_isRight_27 rfl (lv_at hl 2 rfl) ?_
    obtain ⟨h6, hq⟩ := hq
    refine hh_ild X h ac_23 h6 dX8_isRight_28 ?_
    refine lv_icmp_ne (tgt := 36) hx hb1 dX8_isRight_29 (by decide) (fun c7 => ?_) (fun c7 => ?_)
    · have hq := hq.1 c7
      refine lv_iconst (v := (0 : Int32)) hx hb1 dX8_isRight_36 (by decide) ?_
      exact hh_zret X h hr hlocks rfl hq dX8_isRight_37
    · have hq := hq.2 c7
      refine lv_iconst (v := (1 : Int32)) hx hb1 dX8_isRight_32 (by decide) ?_
      refine lv_goto (tgt := 37) hx hb1 dX8_isRight_33 (by decide) ?_
      exact hh_zret X h hr hlocks rfl hq dX8_isRight_37
theorem nd_X8_rightOf : yX8_rightOf.cls = RX8 ∧ yX8_rightOf.cls ≠ "java/lang/invoke/MethodHandle" ∧ yX8_rightOf.cls ≠ "java/lang/invoke/VarHandle" ∧ (parseMethodDescriptor yX8_rightOf.desc).map (fun d => d.parameters.length) = some 1 := by decide +kernel
abbrev rm_X8_rightOf : Room := { frames := 3, cells := 0, slots := 0, locals := 66 }
def wq_X8_rightOf_4 (x1 : Int32) (Q : Int32 → hh_S → Prop) (K4 : Int32 → Int32 → hh_S → Prop) (x2 : Int32) (x3 : Int32) (σ : hh_S) : Prop := (((hh_I σ 256) ≤ x3 → (Q x2 σ)) ∧ (¬ (hh_I σ 256) ≤ x3 → (wp_X8_isRight x1 x3 σ (fun (r2 : Int32) (σ3 : hh_S) => ((r2 = 0 → (∀ v5 : Int32, v5 = (x2 + (0 : Int32)) → (K4 v5 (x3 + (1 : Int32)) σ3))) ∧ (¬ r2 = 0 → (∀ v6 : Int32, v6 = (x2 + (1 : Int32)) → (K4 v6 (x3 + (1 : Int32)) σ3))))))))
def wp_X8_rightOf (x1 : Int32) (σ : hh_S) (Q : Int32 → hh_S → Prop) : Prop := (∃ n : Nat, hh_lp2 (wq_X8_rightOf_4 x1 Q) n (0 : Int32) (0 : Int32) σ)
theorem in_X8_rightOf_X8 : ∀ w ∈ u_ws RX8 TX8 13, w ∈ wsX8_rightOf := fun w h => List.mem_cons_of_mem _ (List.mem_append_left _ (List.mem_append_left _ (List.mem_append_right _ h)))
theorem in_X8_rightOf_X1 : ∀ w ∈ u_ws RX1 TX1 7, w ∈ wsX8_rightOf := fun w h => List.mem_cons_of_mem _ (List.mem_append_left _ (List.mem_append_right _ h))
theorem in_X8_rightOf_X0 : ∀ w ∈ u_ws RX0 TX0 4, w ∈ wsX8_rightOf := fun w h => List.mem_cons_of_mem _ (List.mem_append_right _ h)
set_option maxHeartbeats 4000000 in
set_option maxRecDepth 100000 in
theorem ad_X8_rightOf {D : va_G} (l : Launch) {cy : Nat → ClassId} {ad : Nat → Nat} (J : hh_J hc_Y ad) (x1 : Int32) (σ : hh_S) (Q : Int32 → hh_S → Prop) (hq : wp_X8_rightOf x1 σ Q) : Met l yX8_rightOf wsX8_rightOf rm_X8_rightOf (va_Pc [.ref (ad 0), .int x1] (hh_B D hh_cl hc_Y cy ad σ)) (va_Qi Q (hh_B D hh_cl hc_Y cy ad) (hh_A hc_Y ad)) 0 0 (hh_A hc_Y ad) := by
  refine Met.ofW (cc := cX8_rightOf) (maxL := 4) (ret := (some .int)) (by decide) rfl ?_
  intro p e s m args below meth c s₁ B hml hv
  obtain ⟨hargs, hP0, hK0⟩ := hv
  have hr := B.returns
  have hlocks := B.notSynchronized
  have X : hh_X p m c cX8_rightOf 4 s args wsX8_rightOf RX8 D hh_cl hc_Y cy ad := ⟨⟨B.exec, B.bytes, hml, findClass_of_methodNamed B.named, atoms_spec (ws := wsX8_rightOf) B.pre⟩, hK0, J⟩
  have hx := X.1.1
  have hb1 := X.1.2.1
  have h : hh_H D hh_cl hc_Y cy ad s.heap σ s.heap [] := ⟨hP0, va_S.rf⟩
  have lt_4 : ∀ (x1 : Int32) (n : Nat) (x2 : Int32) (x3 : Int32) (σ : hh_S) (H : Heap) (locs : List Loc) (ls : Array Slot), hh_lp2 (wq_X8_rightOf_4 x1 Q) n x2 x3 σ → hh_H D hh_cl hc_Y cy ad s.heap σ H locs → lv_has ls 4 [(0, .ref (ad 0)), (1, .int x1), (2, .int x2), (3, .int x3)] → W p l e (headSpec wsX8_rightOf rm_X8_rightOf).room s m args below meth c H locs 0 0 (MQ below (va_Qi Q (hh_B D hh_cl hc_Y cy ad) (hh_A hc_Y ad)) args s 0 0 (hh_A hc_Y ad)) (F0 m 4 ls []) := by
    intro x1 n
    induction n with
    | zero => intro x2 x3 σ H locs ls hq h hl; exact hq.elim
    | succ n ih =>
      intro x2 x3 σ H locs ls hq h hl
      have hq : wq_X8_rightOf_4 x1 Q (hh_lp2 (wq_X8_rightOf_4 x1 Q) n) x2 x3 σ := hq
      unfold wq_X8_rightOf_4 at hq
      refine lv_iload_n hx hb1 dX8_rightOf_4 rfl (lv_at hl 3 rfl) ?_
      refine lv_aload_n hx hb1 dX8_rightOf_5 rfl (lv_at hl 0 rfl) ?_
      refine hh_getr X h fc_0_2 in_X8_rightOf_X8 kc_0 (by decide) (List.mem_of_getElem? (i := 1) rfl) rfl dX8_rightOf_6 ?_
      refine hh_geti X h (q := 256) fc_4_0 rfl in_X8_rightOf_X1 kc_4 (by decide) (List.mem_of_getElem? (i := 2) rfl) rfl dX8_rightOf_9 ?_
      refine lv_icmp_ge (tgt := 38) hx hb1 dX8_rightOf_12 (by decide) (fun c1 => ?_) (fun c1 => ?_)
      · have hq := hq.1 c1
        refine lv_iload_n hx hb1 dX8_rightOf_38 rfl (lv_at hl 2 rfl) ?_
        exact hh_iret X h hr hlocks hq dX8_rightOf_39
      · have hq := hq.2 c1
        refine lv_iload_n hx hb1 dX8_rightOf_15 rfl (lv_at hl 2 rfl) ?_
        refine lv_aload_n hx hb1 dX8_rightOf_16 rfl (lv_at hl 0 rfl) ?_
        refine lv_iload_n hx hb1 dX8_rightOf_17 rfl (lv_at hl 1 rfl) ?_
        refine lv_iload_n hx hb1 dX8_rightOf_18 rfl (lv_at hl 3 rfl) ?_
        refine hh_kI h (va_runV (As := [.int x1, .int x3]) (rest := [.int x2]) X.1 (ad_X8_isRight (D := D) l J x1 x3 σ _ hq) (cwV 2 X.1.2.2.2.2 gX8_rightOf_X8_isRight rfl rfl rfl nd_X8_isRight ⟨Nat.le_of_ble_eq_true rfl, Nat.le_of_ble_eq_true rfl⟩) (hh_preV X h fc_0_0 kc_0 [.int x1, .int x3]) rfl rfl hl.1 rfl (lv_room (Nat.le_of_ble_eq_true rfl)) dX8_rightOf_19 ⟨Nat.le_of_ble_eq_true rfl, Nat.le_of_ble_eq_true rfl⟩) (fun r2 σ3 H locs hq h => ?_)
        refine lv_if_eq (tgt := 29) hx hb1 dX8_rightOf_22 (by decide) (fun c4 => ?_) (fun c4 => ?_)
        · have hq := hq.1 c4
          refine lv_iconst (v := (0 : Int32)) hx hb1 dX8_rightOf_29 (by decide) ?_
          refine lv_iadd hx hb1 dX8_rightOf_30 ?_
          refine lv_topi (fun v5 ev5 => ?_)
          have hq := hq v5 ev5
          refine lv_istore_n (lv' := [(2, .int v5), (0, .ref (ad 0)), (1, .int x1), (3, .int x3)]) hx hb1 dX8_rightOf_31 rfl hl (by decide) rfl (fun ls hl => ?_)
          refine lv_iinc (v := (x3 + (1 : Int32))) (lv' := [(3, .int (x3 + (1 : Int32))), (2, .int v5), (0, .ref (ad 0)), (1, .int x1)]) hx hb1 dX8_rightOf_32 hl (k := 3) rfl rfl (by decide) rfl (fun ls hl => ?_)
          refine lv_goto (tgt := 4) hx hb1 dX8_rightOf_35 (by decide) ?_
          exact ih v5 (x3 + (1 : Int32)) σ3 _ _ ls hq h (lv_sub hl [2, 3, 1, 0] rfl)
        · have hq := hq.2 c4
          refine lv_iconst (v := (1 : Int32)) hx hb1 dX8_rightOf_25 (by decide) ?_
          refine lv_goto (tgt := 30) hx hb1 dX8_rightOf_26 (by decide) ?_
          refine lv_iadd hx hb1 dX8_rightOf_30 ?_
          refine lv_topi (fun v6 ev6 => ?_)
          have hq := hq v6 ev6
          refine lv_istore_n (lv' := [(2, .int v6), (0, .ref (ad 0)), (1, .int x1), (3, .int x3)]) hx hb1 dX8_rightOf_31 rfl hl (by decide) rfl (fun ls hl => ?_)
          refine lv_iinc (v := (x3 + (1 : Int32))) (lv' := [(3, .int (x3 + (1 : Int32))), (2, .int v6), (0, .ref (ad 0)), (1, .int x1)]) hx hb1 dX8_rightOf_32 hl (k := 3) rfl rfl (by decide) rfl (fun ls hl => ?_)
          refine lv_goto (tgt := 4) hx hb1 dX8_rightOf_35 (by decide) ?_
          exact ih v6 (x3 + (1 : Int32)) σ3 _ _ ls hq h (lv_sub hl [2, 3, 1, 0] rfl)
  subst hargs
  refine hh_entry (vs := [.ref (ad 0), .int x1]) (Nat.le_of_ble_eq_true rfl) (fun ls hl => ?_)
  have hl : lv_has ls 4 [(0, .ref (ad 0)), (1, .int x1)] := hl
  have hq : wp_X8_rightOf x1 σ Q := hq
  unfold wp_X8_rightOf at hq
  refine lv_iconst (v := (0 : Int32)) hx hb1 dX8_rightOf_0 (by decide) ?_
  refine lv_istore_n (lv' := [(2, .int (0 : Int32)), (0, .ref (ad 0)), (1, .int x1)]) hx hb1 dX8_rightOf_1 rfl hl (by decide) rfl (fun ls hl => ?_)
  refine lv_iconst (v := (0 : Int32)) hx hb1 dX8_rightOf_2 (by decide) ?_
  refine lv_istore_n (lv' := [(3, .int (0 : Int32)), (2, .int (0 : Int32)), (0, .ref (ad 0)), (1, .int x1)]) hx hb1 dX8_rightOf_3 rfl hl (by decide) rfl (fun ls hl => ?_)
  obtain ⟨n7, hq⟩ := hq
  exact lt_4 x1 n7 (0 : Int32) (0 : Int32) σ _ _ ls hq h (lv_sub hl [2, 3, 1, 0] rfl)
theorem nd_X8_right : yX8_right.cls = RX8 ∧ yX8_right.cls ≠ "java/lang/invoke/MethodHandle" ∧ yX8_right.cls ≠ "java/lang/invoke/VarHandle" ∧ (parseMethodDescriptor yX8_right.desc).map (fun d => d.parameters.length) = some 2 := by decide +kernel
abbrev rm_X8_right : Room := { frames := 4, cells := 0, slots := 0, locals := 89 }
def wp_X8_right (x1 : Int32) (x2 : Int32) (σ : hh_S) (Q : Int32 → hh_S → Prop) : Prop := (wp_X0_has x1 σ (fun (r1 : Int32) (σ2 : hh_S) => ((¬ r1 = 0 → ((x2.toInt = 0 → (wp_X8_answersOf x1 σ2 (fun (r5 : Int32) (σ6 : hh_S) => (Q r5 σ6)))) ∧ (x2.toInt = 1 → (wp_X8_answersToKnown x1 σ2 (fun (r8 : Int32) (σ9 : hh_S) => (Q r8 σ9)))) ∧ (x2.toInt = 2 → (wp_X8_rightOf x1 σ2 (fun (r11 : Int32) (σ12 : hh_S) => (Q r11 σ12)))) ∧ (x2.toInt = 3 → (vp_in x1 10 ∧ (Q (hh_rA σ2 27 x1) σ2))) ∧ ((x2.toInt < 0 ∨ 3 < x2.toInt) → (Q (-2 : Int32) σ2)))) ∧ (r1 = 0 → (Q (-1 : Int32) σ2)))))
theorem in_X8_right_X8 : ∀ w ∈ u_ws RX8 TX8 13, w ∈ wsX8_right := fun w h => List.mem_cons_of_mem _ (List.mem_append_left _ (List.mem_append_left _ (List.mem_append_right _ h)))
theorem in_X8_right_X0 : ∀ w ∈ u_ws RX0 TX0 4, w ∈ wsX8_right := fun w h => List.mem_cons_of_mem _ (List.mem_append_left _ (List.mem_append_right _ h))
theorem in_X8_right_X1 : ∀ w ∈ u_ws RX1 TX1 7, w ∈ wsX8_right := fun w h => List.mem_cons_of_mem _ (List.mem_append_right _ h)
set_option maxHeartbeats 4000000 in
set_option maxRecDepth 100000 in
theorem ad_X8_right {D : va_G} (l : Launch) {cy : Nat → ClassId} {ad : Nat → Nat} (J : hh_J hc_Y ad) (x1 : Int32) (x2 : Int32) (σ : hh_S) (Q : Int32 → hh_S → Prop) (hq : wp_X8_right x1 x2 σ Q) : Met l yX8_right wsX8_right rm_X8_right (va_Pc [.ref (ad 0), .int x1, .int x2] (hh_B D hh_cl hc_Y cy ad σ)) (va_Qi Q (hh_B D hh_cl hc_Y cy ad) (hh_A hc_Y ad)) 0 0 (hh_A hc_Y ad) := by
  refine Met.ofW (cc := cX8_right) (maxL := 3) (ret := (some .int)) (by decide) rfl ?_
  intro p e s m args below meth c s₁ B hml hv
  obtain ⟨hargs, hP0, hK0⟩ := hv
  have hr := B.returns
  have hlocks := B.notSynchronized
  have X : hh_X p m c cX8_right 3 s args wsX8_right RX8 D hh_cl hc_Y cy ad := ⟨⟨B.exec, B.bytes, hml, findClass_of_methodNamed B.named, atoms_spec (ws := wsX8_right) B.pre⟩, hK0, J⟩
  have hx := X.1.1
  have hb1 := X.1.2.1
  have h : hh_H D hh_cl hc_Y cy ad s.heap σ s.heap [] := ⟨hP0, va_S.rf⟩
  subst hargs
  refine hh_entry (vs := [.ref (ad 0), .int x1, .int x2]) (Nat.le_of_ble_eq_true rfl) (fun ls hl => ?_)
  have hl : lv_has ls 3 [(0, .ref (ad 0)), (1, .int x1), (2, .int x2)] := hl
  have hq : wp_X8_right x1 x2 σ Q := hq
  unfold wp_X8_right at hq
  refine lv_aload_n hx hb1 dX8_right_0 rfl (lv_at hl 0 rfl) ?_
  refine hh_getr X h fc_0_3 in_X8_right_X8 kc_0 (by decide) (List.mem_of_getElem? (i := 1) rfl) rfl dX8_right_1 ?_
  refine lv_iload_n hx hb1 dX8_right_4 rfl (lv_at hl 1 rfl) ?_
  refine hh_kI h (va_runV (As := [.int x1]) (rest := []) X.1 (ad_X0_has (D := D) l J x1 σ _ hq) (cwV 1 X.1.2.2.2.2 gX8_right_X0_has rfl rfl rfl nd_X0_has ⟨Nat.le_of_ble_eq_true rfl, Nat.le_of_ble_eq_true rfl⟩) (hh_preV X h fc_5_0 kc_5 [.int x1]) rfl rfl hl.1 rfl (lv_room (Nat.le_of_ble_eq_true rfl)) dX8_right_5 ⟨Nat.le_of_ble_eq_true rfl, Nat.le_of_ble_eq_true rfl⟩) (fun r1 σ2 H locs hq h => ?_)
  refine lv_if_ne (tgt := 13) hx hb1 dX8_right_8 (by decide) (fun c3 => ?_) (fun c3 => ?_)
  · have hq := hq.1 c3
    refine lv_iload_n hx hb1 dX8_right_13 rfl (lv_at hl 2 rfl) ?_
    by_cases c4 : x2.toInt = 0
    · have hq := hq.1 c4
      refine hh_tabIn X (off := 30) (tgt := 44) 0 dX8_right_14 c4 (by decide) (by decide) (by decide) (by decide) ?_
      refine lv_aload_n hx hb1 dX8_right_44 rfl (lv_at hl 0 rfl) ?_
      refine lv_iload_n hx hb1 dX8_right_45 rfl (lv_at hl 1 rfl) ?_
      refine hh_kI h (va_runV (As := [.int x1]) (rest := []) X.1 (ad_X8_answersOf (D := D) l J x1 σ2 _ hq) (cwV 1 X.1.2.2.2.2 gX8_right_X8_answersOf rfl rfl rfl nd_X8_answersOf ⟨Nat.le_of_ble_eq_true rfl, Nat.le_of_ble_eq_true rfl⟩) (hh_preV X h fc_0_0 kc_0 [.int x1]) rfl rfl hl.1 rfl (lv_room (Nat.le_of_ble_eq_true rfl)) dX8_right_46 ⟨Nat.le_of_ble_eq_true rfl, Nat.le_of_ble_eq_true rfl⟩) (fun r5 σ6 H locs hq h => ?_)
      exact hh_iret X h hr hlocks hq dX8_right_49
    have hq := hq.2
    by_cases c7 : x2.toInt = 1
    · have hq := hq.1 c7
      refine hh_tabIn X (off := 36) (tgt := 50) 1 dX8_right_14 c7 (by decide) (by decide) (by decide) (by decide) ?_
      refine lv_aload_n hx hb1 dX8_right_50 rfl (lv_at hl 0 rfl) ?_
      refine lv_iload_n hx hb1 dX8_right_51 rfl (lv_at hl 1 rfl) ?_
      refine hh_kI h (va_runV (As := [.int x1]) (rest := []) X.1 (ad_X8_answersToKnown (D := D) l J x1 σ2 _ hq) (cwV 1 X.1.2.2.2.2 gX8_right_X8_answersToKnown rfl rfl rfl nd_X8_answersToKnown ⟨Nat.le_of_ble_eq_true rfl, Nat.le_of_ble_eq_true rfl⟩) (hh_preV X h fc_0_0 kc_0 [.int x1]) rfl rfl hl.1 rfl (lv_room (Nat.le_of_ble_eq_true rfl)) dX8_right_52 ⟨Nat.le_of_ble_eq_true rfl, Nat.le_of_ble_eq_true rfl⟩) (fun r8 σ9 H locs hq h => ?_)
      exact hh_iret X h hr hlocks hq dX8_right_55
    have hq := hq.2
    by_cases c10 : x2.toInt = 2
    · have hq := hq.1 c10
      refine hh_tabIn X (off := 42) (tgt := 56) 2 dX8_right_14 c10 (by decide) (by decide) (by decide) (by decide) ?_
      refine lv_aload_n hx hb1 dX8_right_56 rfl (lv_at hl 0 rfl) ?_
      refine lv_iload_n hx hb1 dX8_right_57 rfl (lv_at hl 1 rfl) ?_
      refine hh_kI h (va_runV (As := [.int x1]) (rest := []) X.1 (ad_X8_rightOf (D := D) l J x1 σ2 _ hq) (cwV 1 X.1.2.2.2.2 gX8_right_X8_rightOf rfl rfl rfl nd_X8_rightOf ⟨Nat.le_of_ble_eq_true rfl, Nat.le_of_ble_eq_true rfl⟩) (hh_preV X h fc_0_0 kc_0 [.int x1]) rfl rfl hl.1 rfl (lv_room (Nat.le_of_ble_eq_true rfl)) dX8_right_58 ⟨Nat.le_of_ble_eq_true rfl, Nat.le_of_ble_eq_true rfl⟩) (fun r11 σ12 H locs hq h => ?_)
      exact hh_iret X h hr hlocks hq dX8_right_61
    have hq := hq.2
    by_cases c13 : x2.toInt = 3
    · have hq := hq.1 c13
      refine hh_tabIn X (off := 48) (tgt := 62) 3 dX8_right_14 c13 (by decide) (by decide) (by decide) (by decide) ?_
      refine lv_aload_n hx hb1 dX8_right_62 rfl (lv_at hl 0 rfl) ?_
      refine hh_getr X h fc_0_3 in_X8_right_X8 kc_0 (by decide) (List.mem_of_getElem? (i := 1) rfl) rfl dX8_right_63 ?_
      refine hh_getr X h fc_5_2 in_X8_right_X0 kc_5 (by decide) (List.mem_of_getElem? (i := 2) rfl) rfl dX8_right_66 ?_
      refine lv_iload_n hx hb1 dX8_right_69 rfl (lv_at hl 1 rfl) ?_
      obtain ⟨h14, hq⟩ := hq
      refine hh_ild X h ac_27 h14 dX8_right_70 ?_
      exact hh_iret X h hr hlocks hq dX8_right_71
    have hq := hq.2
    have c15 := hh_out3 c4 c7 c10 c13
    have hq := hq c15
    refine hh_tabOut X (tgt := 72) dX8_right_14 c15 (by decide) ?_
    refine lv_bipush (v := (-2 : Int32)) hx hb1 dX8_right_72 (by decide) ?_
    exact hh_iret X h hr hlocks hq dX8_right_74
  · have hq := hq.2 c3
    refine lv_iconst (v := (-1 : Int32)) hx hb1 dX8_right_11 (by decide) ?_
    exact hh_iret X h hr hlocks hq dX8_right_12
theorem nd_X8_guessing : yX8_guessing.cls = RX8 ∧ yX8_guessing.cls ≠ "java/lang/invoke/MethodHandle" ∧ yX8_guessing.cls ≠ "java/lang/invoke/VarHandle" ∧ (parseMethodDescriptor yX8_guessing.desc).map (fun d => d.parameters.length) = some 2 := by decide +kernel
abbrev rm_X8_guessing : Room := { frames := 4, cells := 0, slots := 0, locals := 89 }
def wq_X8_guessing_37 (x1 : Int32) (x2 : Int32) (Q : Int64 → hh_S → Prop) (K37 : Int32 → hh_S → Prop) (x3 : Int32) (σ : hh_S) : Prop := (((hh_I σ 256) ≤ x3 → (wp_X8_rightOf x1 σ (fun (r2 : Int32) (σ3 : hh_S) => (wp_X3_hitAtLeast r2 σ3 (fun (σ5 : hh_S) => (wp_X3_part x2 σ5 (fun (r6 : Int64) (σ7 : hh_S) => (Q r6 σ7)))))))) ∧ (¬ (hh_I σ 256) ≤ x3 → (wp_X8_isToKnown x1 x3 σ (fun (r8 : Int32) (σ9 : hh_S) => ((r8 = 0 → (K37 (x3 + (1 : Int32)) σ9)) ∧ (¬ r8 = 0 → (vp_in x3 24 ∧ (wp_X3_draw (hh_rA σ9 22 x3) σ9 (fun (σ13 : hh_S) => (K37 (x3 + (1 : Int32)) σ13))))))))))
def wp_X8_guessing (x1 : Int32) (x2 : Int32) (σ : hh_S) (Q : Int64 → hh_S → Prop) : Prop := (wp_X0_has x1 σ (fun (r14 : Int32) (σ15 : hh_S) => ((¬ r14 = 0 → ((x2 < 0 → (Q (-1000000000000000002 : Int64) σ15)) ∧ (¬ x2 < 0 → ((x2 ≤ (1 : Int32) → (wp_X3_begin σ15 (fun (σ20 : hh_S) => (∃ n : Nat, hh_lp1 (wq_X8_guessing_37 x1 x2 Q) n (0 : Int32) σ20)))) ∧ (¬ x2 ≤ (1 : Int32) → (Q (-1000000000000000002 : Int64) σ15)))))) ∧ (r14 = 0 → (Q (-1000000000000000001 : Int64) σ15)))))
theorem in_X8_guessing_X8 : ∀ w ∈ u_ws RX8 TX8 13, w ∈ wsX8_guessing := fun w h => List.mem_cons_of_mem _ (List.mem_append_left _ (List.mem_append_left _ (List.mem_append_left _ (List.mem_append_right _ h))))
theorem in_X8_guessing_X1 : ∀ w ∈ u_ws RX1 TX1 7, w ∈ wsX8_guessing := fun w h => List.mem_cons_of_mem _ (List.mem_append_left _ (List.mem_append_left _ (List.mem_append_right _ h)))
theorem in_X8_guessing_X0 : ∀ w ∈ u_ws RX0 TX0 4, w ∈ wsX8_guessing := fun w h => List.mem_cons_of_mem _ (List.mem_append_left _ (List.mem_append_right _ h))
theorem in_X8_guessing_X3 : ∀ w ∈ u_ws RX3 TX3 4, w ∈ wsX8_guessing := fun w h => List.mem_cons_of_mem _ (List.mem_append_right _ h)
set_option maxHeartbeats 4000000 in
set_option maxRecDepth 100000 in
theorem ad_X8_guessing {D : va_G} (l : Launch) {cy : Nat → ClassId} {ad : Nat → Nat} (J : hh_J hc_Y ad) (x1 : Int32) (x2 : Int32) (σ : hh_S) (Q : Int64 → hh_S → Prop) (hq : wp_X8_guessing x1 x2 σ Q) : Met l yX8_guessing wsX8_guessing rm_X8_guessing (va_Pc [.ref (ad 0), .int x1, .int x2] (hh_B D hh_cl hc_Y cy ad σ)) (va_Ql Q (hh_B D hh_cl hc_Y cy ad) (hh_A hc_Y ad)) 0 0 (hh_A hc_Y ad) := by
  refine Met.ofW (cc := cX8_guessing) (maxL := 4) (ret := (some .long)) (by decide) rfl ?_
  intro p e s m args below meth c s₁ B hml hv
  obtain ⟨hargs, hP0, hK0⟩ := hv
  have hr := B.returns
  have hlocks := B.notSynchronized
  have X : hh_X p m c cX8_guessing 4 s args wsX8_guessing RX8 D hh_cl hc_Y cy ad := ⟨⟨B.exec, B.bytes, hml, findClass_of_methodNamed B.named, atoms_spec (ws := wsX8_guessing) B.pre⟩, hK0, J⟩
  have hx := X.1.1
  have hb1 := X.1.2.1
  have h : hh_H D hh_cl hc_Y cy ad s.heap σ s.heap [] := ⟨hP0, va_S.rf⟩
  have lt_37 : ∀ (x1 : Int32) (x2 : Int32) (n : Nat) (x3 : Int32) (σ : hh_S) (H : Heap) (locs : List Loc) (ls : Array Slot), hh_lp1 (wq_X8_guessing_37 x1 x2 Q) n x3 σ → hh_H D hh_cl hc_Y cy ad s.heap σ H locs → lv_has ls 4 [(0, .ref (ad 0)), (1, .int x1), (2, .int x2), (3, .int x3)] → W p l e (headSpec wsX8_guessing rm_X8_guessing).room s m args below meth c H locs 0 0 (MQ below (va_Ql Q (hh_B D hh_cl hc_Y cy ad) (hh_A hc_Y ad)) args s 0 0 (hh_A hc_Y ad)) (F0 m 37 ls []) := by
    intro x1 x2 n
    induction n with
    | zero => intro x3 σ H locs ls hq h hl; exact hq.elim
    | succ n ih =>
      intro x3 σ H locs ls hq h hl
      have hq : wq_X8_guessing_37 x1 x2 Q (hh_lp1 (wq_X8_guessing_37 x1 x2 Q) n) x3 σ := hq
      unfold wq_X8_guessing_37 at hq
      refine lv_iload_n hx hb1 dX8_guessing_37 rfl (lv_at hl 3 rfl) ?_
      refine lv_aload_n hx hb1 dX8_guessing_38 rfl (lv_at hl 0 rfl) ?_
      refine hh_getr X h fc_0_2 in_X8_guessing_X8 kc_0 (by decide) (List.mem_of_getElem? (i := 5) rfl) rfl dX8_guessing_39 ?_
      refine hh_geti X h (q := 256) fc_4_0 rfl in_X8_guessing_X1 kc_4 (by decide) (List.mem_of_getElem? (i := 6) rfl) rfl dX8_guessing_42 ?_
      refine lv_icmp_ge (tgt := 79) hx hb1 dX8_guessing_45 (by decide) (fun c1 => ?_) (fun c1 => ?_)
      · have hq := hq.1 c1
        refine lv_aload_n hx hb1 dX8_guessing_79 rfl (lv_at hl 0 rfl) ?_
        refine hh_getr X h fc_0_7 in_X8_guessing_X8 kc_0 (by decide) (List.mem_of_getElem? (i := 4) rfl) rfl dX8_guessing_80 ?_
        refine lv_aload_n hx hb1 dX8_guessing_83 rfl (lv_at hl 0 rfl) ?_
        refine lv_iload_n hx hb1 dX8_guessing_84 rfl (lv_at hl 1 rfl) ?_
        refine hh_kI h (va_runV (As := [.int x1]) (rest := [.ref (ad 9)]) X.1 (ad_X8_rightOf (D := D) l J x1 σ _ hq) (cwV 1 X.1.2.2.2.2 gX8_guessing_X8_rightOf rfl rfl rfl nd_X8_rightOf ⟨Nat.le_of_ble_eq_true rfl, Nat.le_of_ble_eq_true rfl⟩) (hh_preV X h fc_0_0 kc_0 [.int x1]) rfl rfl hl.1 rfl (lv_room (Nat.le_of_ble_eq_true rfl)) dX8_guessing_85 ⟨Nat.le_of_ble_eq_true rfl, Nat.le_of_ble_eq_true rfl⟩) (fun r2 σ3 H locs hq h => ?_)
        refine hh_kV h (va_runV (As := [.int r2]) (rest := []) X.1 (ad_X3_hitAtLeast (D := D) l J r2 σ3 _ hq) (cwV 1 X.1.2.2.2.2 gX8_guessing_X3_hitAtLeast rfl rfl rfl nd_X3_hitAtLeast ⟨Nat.le_of_ble_eq_true rfl, Nat.le_of_ble_eq_true rfl⟩) (hh_preV X h fc_9_0 kc_9 [.int r2]) rfl rfl hl.1 rfl (lv_room (Nat.le_of_ble_eq_true rfl)) dX8_guessing_88 ⟨Nat.le_of_ble_eq_true rfl, Nat.le_of_ble_eq_true rfl⟩) (fun σ5 H locs hq h => ?_)
        refine lv_aload_n hx hb1 dX8_guessing_91 rfl (lv_at hl 0 rfl) ?_
        refine hh_getr X h fc_0_7 in_X8_guessing_X8 kc_0 (by decide) (List.mem_of_getElem? (i := 4) rfl) rfl dX8_guessing_92 ?_
        refine lv_iload_n hx hb1 dX8_guessing_95 rfl (lv_at hl 2 rfl) ?_
        refine hh_kL h (va_runV (As := [.int x2]) (rest := []) X.1 (ad_X3_part (D := D) l J x2 σ5 _ hq) (cwV 1 X.1.2.2.2.2 gX8_guessing_X3_part rfl rfl rfl nd_X3_part ⟨Nat.le_of_ble_eq_true rfl, Nat.le_of_ble_eq_true rfl⟩) (hh_preV X h fc_9_0 kc_9 [.int x2]) rfl rfl hl.1 rfl (lv_room (Nat.le_of_ble_eq_true rfl)) dX8_guessing_96 ⟨Nat.le_of_ble_eq_true rfl, Nat.le_of_ble_eq_true rfl⟩) (fun r6 σ7 H locs hq h => ?_)
        exact hh_lret X h hr hlocks hq dX8_guessing_99
      · have hq := hq.2 c1
        refine lv_aload_n hx hb1 dX8_guessing_48 rfl (lv_at hl 0 rfl) ?_
        refine lv_iload_n hx hb1 dX8_guessing_49 rfl (lv_at hl 1 rfl) ?_
        refine lv_iload_n hx hb1 dX8_guessing_50 rfl (lv_at hl 3 rfl) ?_
        refine hh_kI h (va_runV (As := [.int x1, .int x3]) (rest := []) X.1 (ad_X8_isToKnown (D := D) l J x1 x3 σ _ hq) (cwV 2 X.1.2.2.2.2 gX8_guessing_X8_isToKnown rfl rfl rfl nd_X8_isToKnown ⟨Nat.le_of_ble_eq_true rfl, Nat.le_of_ble_eq_true rfl⟩) (hh_preV X h fc_0_0 kc_0 [.int x1, .int x3]) rfl rfl hl.1 rfl (lv_room (Nat.le_of_ble_eq_true rfl)) dX8_guessing_51 ⟨Nat.le_of_ble_eq_true rfl, Nat.le_of_ble_eq_true rfl⟩) (fun r8 σ9 H locs hq h => ?_)
        refine lv_if_eq (tgt := 73) hx hb1 dX8_guessing_54 (by decide) (fun c10 => ?_) (fun c10 => ?_)
        · have hq := hq.1 c10
          refine lv_iinc (v := (x3 + (1 : Int32))) (lv' := [(3, .int (x3 + (1 : Int32))), (0, .ref (ad 0)), (1, .int x1), (2, .int x2)]) hx hb1 dX8_guessing_73 hl (k := 3) rfl rfl (by decide) rfl (fun ls hl => ?_)
          refine lv_goto (tgt := 37) hx hb1 dX8_guessing_76 (by decide) ?_
          exact ih (x3 + (1 : Int32)) σ9 _ _ ls hq h (lv_sub hl [1, 2, 3, 0] rfl)
        · have hq := hq.2 c10
          refine lv_aload_n hx hb1 dX8_guessing_57 rfl (lv_at hl 0 rfl) ?_
          refine hh_getr X h fc_0_7 in_X8_guessing_X8 kc_0 (by decide) (List.mem_of_getElem? (i := 4) rfl) rfl dX8_guessing_58 ?_
          refine lv_aload_n hx hb1 dX8_guessing_61 rfl (lv_at hl 0 rfl) ?_
          refine hh_getr X h fc_0_2 in_X8_guessing_X8 kc_0 (by decide) (List.mem_of_getElem? (i := 5) rfl) rfl dX8_guessing_62 ?_
          refine hh_getr X h fc_4_3 in_X8_guessing_X1 kc_4 (by decide) (List.mem_of_getElem? (i := 7) rfl) rfl dX8_guessing_65 ?_
          refine lv_iload_n hx hb1 dX8_guessing_68 rfl (lv_at hl 3 rfl) ?_
          obtain ⟨h11, hq⟩ := hq
          refine hh_ild X h ac_22 h11 dX8_guessing_69 ?_
          refine hh_kV h (va_runV (As := [.int (hh_rA σ9 22 x3)]) (rest := []) X.1 (ad_X3_draw (D := D) l J (hh_rA σ9 22 x3) σ9 _ hq) (cwV 1 X.1.2.2.2.2 gX8_guessing_X3_draw rfl rfl rfl nd_X3_draw ⟨Nat.le_of_ble_eq_true rfl, Nat.le_of_ble_eq_true rfl⟩) (hh_preV X h fc_9_0 kc_9 [.int (hh_rA σ9 22 x3)]) rfl rfl hl.1 rfl (lv_room (Nat.le_of_ble_eq_true rfl)) dX8_guessing_70 ⟨Nat.le_of_ble_eq_true rfl, Nat.le_of_ble_eq_true rfl⟩) (fun σ13 H locs hq h => ?_)
          refine lv_iinc (v := (x3 + (1 : Int32))) (lv' := [(3, .int (x3 + (1 : Int32))), (0, .ref (ad 0)), (1, .int x1), (2, .int x2)]) hx hb1 dX8_guessing_73 hl (k := 3) rfl rfl (by decide) rfl (fun ls hl => ?_)
          refine lv_goto (tgt := 37) hx hb1 dX8_guessing_76 (by decide) ?_
          exact ih (x3 + (1 : Int32)) σ13 _ _ ls hq h (lv_sub hl [1, 2, 3, 0] rfl)
  subst hargs
  refine hh_entry (vs := [.ref (ad 0), .int x1, .int x2]) (Nat.le_of_ble_eq_true rfl) (fun ls hl => ?_)
  have hl : lv_has ls 4 [(0, .ref (ad 0)), (1, .int x1), (2, .int x2)] := hl
  have hq : wp_X8_guessing x1 x2 σ Q := hq
  unfold wp_X8_guessing at hq
  refine lv_aload_n hx hb1 dX8_guessing_0 rfl (lv_at hl 0 rfl) ?_
  refine hh_getr X h fc_0_3 in_X8_guessing_X8 kc_0 (by decide) (List.mem_of_getElem? (i := 1) rfl) rfl dX8_guessing_1 ?_
  refine lv_iload_n hx hb1 dX8_guessing_4 rfl (lv_at hl 1 rfl) ?_
  refine hh_kI h (va_runV (As := [.int x1]) (rest := []) X.1 (ad_X0_has (D := D) l J x1 σ _ hq) (cwV 1 X.1.2.2.2.2 gX8_guessing_X0_has rfl rfl rfl nd_X0_has ⟨Nat.le_of_ble_eq_true rfl, Nat.le_of_ble_eq_true rfl⟩) (hh_preV X h fc_5_0 kc_5 [.int x1]) rfl rfl hl.1 rfl (lv_room (Nat.le_of_ble_eq_true rfl)) dX8_guessing_5 ⟨Nat.le_of_ble_eq_true rfl, Nat.le_of_ble_eq_true rfl⟩) (fun r14 σ15 H locs hq h => ?_)
  refine lv_if_ne (tgt := 15) hx hb1 dX8_guessing_8 (by decide) (fun c16 => ?_) (fun c16 => ?_)
  · have hq := hq.1 c16
    refine lv_iload_n hx hb1 dX8_guessing_15 rfl (lv_at hl 2 rfl) ?_
    refine lv_if_lt (tgt := 24) hx hb1 dX8_guessing_16 (by decide) (fun c17 => ?_) (fun c17 => ?_)
    · have hq := hq.1 c17
      refine lv_ldc2 (v := (-1000000000000000002 : Int64)) hx hb1 X.1.2.2.2.1 (X.1.2.2.2.2 _ (List.mem_of_getElem? (i := 3) rfl)) dX8_guessing_24 ?_
      exact hh_lret X h hr hlocks hq dX8_guessing_27
    · have hq := hq.2 c17
      refine lv_iload_n hx hb1 dX8_guessing_19 rfl (lv_at hl 2 rfl) ?_
      refine lv_iconst (v := (1 : Int32)) hx hb1 dX8_guessing_20 (by decide) ?_
      refine lv_icmp_le (tgt := 28) hx hb1 dX8_guessing_21 (by decide) (fun c18 => ?_) (fun c18 => ?_)
      · have hq := hq.1 c18
        refine lv_aload_n hx hb1 dX8_guessing_28 rfl (lv_at hl 0 rfl) ?_
        refine hh_getr X h fc_0_7 in_X8_guessing_X8 kc_0 (by decide) (List.mem_of_getElem? (i := 4) rfl) rfl dX8_guessing_29 ?_
        refine hh_kV h (va_runV (As := []) (rest := []) X.1 (ad_X3_begin (D := D) l J σ15 _ hq) (cwV 0 X.1.2.2.2.2 gX8_guessing_X3_begin rfl rfl rfl nd_X3_begin ⟨Nat.le_of_ble_eq_true rfl, Nat.le_of_ble_eq_true rfl⟩) (hh_preV X h fc_9_0 kc_9 []) rfl rfl hl.1 rfl (lv_room (Nat.le_of_ble_eq_true rfl)) dX8_guessing_32 ⟨Nat.le_of_ble_eq_true rfl, Nat.le_of_ble_eq_true rfl⟩) (fun σ20 H locs hq h => ?_)
        refine lv_iconst (v := (0 : Int32)) hx hb1 dX8_guessing_35 (by decide) ?_
        refine lv_istore_n (lv' := [(3, .int (0 : Int32)), (0, .ref (ad 0)), (1, .int x1), (2, .int x2)]) hx hb1 dX8_guessing_36 rfl hl (by decide) rfl (fun ls hl => ?_)
        obtain ⟨n21, hq⟩ := hq
        exact lt_37 x1 x2 n21 (0 : Int32) σ20 _ _ ls hq h (lv_sub hl [1, 2, 3, 0] rfl)
      · have hq := hq.2 c18
        refine lv_ldc2 (v := (-1000000000000000002 : Int64)) hx hb1 X.1.2.2.2.1 (X.1.2.2.2.2 _ (List.mem_of_getElem? (i := 3) rfl)) dX8_guessing_24 ?_
        exact hh_lret X h hr hlocks hq dX8_guessing_27
  · have hq := hq.2 c16
    refine lv_ldc2 (v := (-1000000000000000001 : Int64)) hx hb1 X.1.2.2.2.1 (X.1.2.2.2.2 _ (List.mem_of_getElem? (i := 2) rfl)) dX8_guessing_11 ?_
    exact hh_lret X h hr hlocks hq dX8_guessing_14
theorem nd_X8_copying : yX8_copying.cls = RX8 ∧ yX8_copying.cls ≠ "java/lang/invoke/MethodHandle" ∧ yX8_copying.cls ≠ "java/lang/invoke/VarHandle" ∧ (parseMethodDescriptor yX8_copying.desc).map (fun d => d.parameters.length) = some 3 := by decide +kernel
abbrev rm_X8_copying : Room := { frames := 2, cells := 0, slots := 0, locals := 57 }
def wq_X8_copying_57 (x1 : Int32) (x2 : Int32) (x3 : Int32) (Q : Int64 → hh_S → Prop) (K57 : Int32 → Int32 → hh_S → Prop) (x4 : Int32) (x5 : Int32) (σ : hh_S) : Prop := (((hh_I σ 256) ≤ x5 → (wp_X3_hitAtLeast x4 σ (fun (σ3 : hh_S) => (wp_X3_part x3 σ3 (fun (r4 : Int64) (σ5 : hh_S) => (Q r4 σ5)))))) ∧ (¬ (hh_I σ 256) ≤ x5 → (((14 : Int32) ≤ (hh_I σ 576) → (wp_X3_hitAtLeast x4 σ (fun (σ8 : hh_S) => (wp_X3_part x3 σ8 (fun (r9 : Int64) (σ10 : hh_S) => (Q r9 σ10)))))) ∧ (¬ (14 : Int32) ≤ (hh_I σ 576) → (wp_X0_counts x1 x5 σ (fun (r11 : Int32) (σ12 : hh_S) => ((r11 = 0 → (K57 x4 (x5 + (1 : Int32)) σ12)) ∧ (¬ r11 = 0 → (wp_X0_counts x2 x5 σ12 (fun (r14 : Int32) (σ15 : hh_S) => ((r14 = 0 → (K57 x4 (x5 + (1 : Int32)) σ15)) ∧ (¬ r14 = 0 → (vp_in x5 24 ∧ (wp_X3_draw (hh_rA σ15 22 x5) σ15 (fun (σ19 : hh_S) => (vp_in x1 10 ∧ (vp_in x5 24 ∧ (vp_in x2 10 ∧ (vp_in x5 24 ∧ ((¬ (hh_rA σ19 (45 + (x1).toNatClampNeg) x5) = (hh_rA σ19 (45 + (x2).toNatClampNeg) x5) → (∀ v25 : Int32, v25 = (x4 + (0 : Int32)) → (K57 v25 (x5 + (1 : Int32)) σ19))) ∧ ((hh_rA σ19 (45 + (x1).toNatClampNeg) x5) = (hh_rA σ19 (45 + (x2).toNatClampNeg) x5) → (∀ v26 : Int32, v26 = (x4 + (1 : Int32)) → (K57 v26 (x5 + (1 : Int32)) σ19)))))))))))))))))))))))
def wp_X8_copying (x1 : Int32) (x2 : Int32) (x3 : Int32) (σ : hh_S) (Q : Int64 → hh_S → Prop) : Prop := (wp_X0_has x1 σ (fun (r27 : Int32) (σ28 : hh_S) => ((r27 = 0 → (Q (-1000000000000000001 : Int64) σ28)) ∧ (¬ r27 = 0 → (wp_X0_has x2 σ28 (fun (r30 : Int32) (σ31 : hh_S) => ((r30 = 0 → (Q (-1000000000000000001 : Int64) σ31)) ∧ (¬ r30 = 0 → ((¬ x1 = x2 → ((x3 < 0 → (Q (-1000000000000000002 : Int64) σ31)) ∧ (¬ x3 < 0 → ((x3 ≤ (1 : Int32) → (wp_X3_begin σ31 (fun (σ37 : hh_S) => (∃ n : Nat, hh_lp2 (wq_X8_copying_57 x1 x2 x3 Q) n (0 : Int32) (0 : Int32) σ37)))) ∧ (¬ x3 ≤ (1 : Int32) → (Q (-1000000000000000002 : Int64) σ31)))))) ∧ (x1 = x2 → (Q (-1000000000000000001 : Int64) σ31)))))))))))
theorem in_X8_copying_X8 : ∀ w ∈ u_ws RX8 TX8 13, w ∈ wsX8_copying := fun w h => List.mem_cons_of_mem _ (List.mem_append_left _ (List.mem_append_left _ (List.mem_append_left _ (List.mem_append_right _ h))))
theorem in_X8_copying_X1 : ∀ w ∈ u_ws RX1 TX1 7, w ∈ wsX8_copying := fun w h => List.mem_cons_of_mem _ (List.mem_append_left _ (List.mem_append_left _ (List.mem_append_right _ h)))
theorem in_X8_copying_X3 : ∀ w ∈ u_ws RX3 TX3 4, w ∈ wsX8_copying := fun w h => List.mem_cons_of_mem _ (List.mem_append_left _ (List.mem_append_right _ h))
theorem in_X8_copying_X0 : ∀ w ∈ u_ws RX0 TX0 4, w ∈ wsX8_copying := fun w h => List.mem_cons_of_mem _ (List.mem_append_right _ h)
set_option maxHeartbeats 4000000 in
set_option maxRecDepth 100000 in
theorem ad_X8_copying {D : va_G} (l : Launch) {cy : Nat → ClassId} {ad : Nat → Nat} (J : hh_J hc_Y ad) (x1 : Int32) (x2 : Int32) (x3 : Int32) (σ : hh_S) (Q : Int64 → hh_S → Prop) (hq : wp_X8_copying x1 x2 x3 σ Q) : Met l yX8_copying wsX8_copying rm_X8_copying (va_Pc [.ref (ad 0), .int x1, .int x2, .int x3] (hh_B D hh_cl hc_Y cy ad σ)) (va_Ql Q (hh_B D hh_cl hc_Y cy ad) (hh_A hc_Y ad)) 0 0 (hh_A hc_Y ad) := by
  refine Met.ofW (cc := cX8_copying) (maxL := 6) (ret := (some .long)) (by decide) rfl ?_
  intro p e s m args below meth c s₁ B hml hv
  obtain ⟨hargs, hP0, hK0⟩ := hv
  have hr := B.returns
  have hlocks := B.notSynchronized
  have X : hh_X p m c cX8_copying 6 s args wsX8_copying RX8 D hh_cl hc_Y cy ad := ⟨⟨B.exec, B.bytes, hml, findClass_of_methodNamed B.named, atoms_spec (ws := wsX8_copying) B.pre⟩, hK0, J⟩
  have hx := X.1.1
  have hb1 := X.1.2.1
  have h : hh_H D hh_cl hc_Y cy ad s.heap σ s.heap [] := ⟨hP0, va_S.rf⟩
  have lt_57 : ∀ (x1 : Int32) (x2 : Int32) (x3 : Int32) (n : Nat) (x4 : Int32) (x5 : Int32) (σ : hh_S) (H : Heap) (locs : List Loc) (ls : Array Slot), hh_lp2 (wq_X8_copying_57 x1 x2 x3 Q) n x4 x5 σ → hh_H D hh_cl hc_Y cy ad s.heap σ H locs → lv_has ls 6 [(0, .ref (ad 0)), (1, .int x1), (2, .int x2), (3, .int x3), (4, .int x4), (5, .int x5)] → W p l e (headSpec wsX8_copying rm_X8_copying).room s m args below meth c H locs 0 0 (MQ below (va_Ql Q (hh_B D hh_cl hc_Y cy ad) (hh_A hc_Y ad)) args s 0 0 (hh_A hc_Y ad)) (F0 m 57 ls []) := by
    intro x1 x2 x3 n
    induction n with
    | zero => intro x4 x5 σ H locs ls hq h hl; exact hq.elim
    | succ n ih =>
      intro x4 x5 σ H locs ls hq h hl
      have hq : wq_X8_copying_57 x1 x2 x3 Q (hh_lp2 (wq_X8_copying_57 x1 x2 x3 Q) n) x4 x5 σ := hq
      unfold wq_X8_copying_57 at hq
      refine lv_iload hx hb1 dX8_copying_57 (lv_at hl 5 rfl) ?_
      refine lv_aload_n hx hb1 dX8_copying_59 rfl (lv_at hl 0 rfl) ?_
      refine hh_getr X h fc_0_2 in_X8_copying_X8 kc_0 (by decide) (List.mem_of_getElem? (i := 5) rfl) rfl dX8_copying_60 ?_
      refine hh_geti X h (q := 256) fc_4_0 rfl in_X8_copying_X1 kc_4 (by decide) (List.mem_of_getElem? (i := 6) rfl) rfl dX8_copying_63 ?_
      refine lv_icmp_ge (tgt := 167) hx hb1 dX8_copying_66 (by decide) (fun c1 => ?_) (fun c1 => ?_)
      · have hq := hq.1 c1
        refine lv_aload_n hx hb1 dX8_copying_167 rfl (lv_at hl 0 rfl) ?_
        refine hh_getr X h fc_0_7 in_X8_copying_X8 kc_0 (by decide) (List.mem_of_getElem? (i := 4) rfl) rfl dX8_copying_168 ?_
        refine lv_iload hx hb1 dX8_copying_171 (lv_at hl 4 rfl) ?_
        refine hh_kV h (va_runV (As := [.int x4]) (rest := []) X.1 (ad_X3_hitAtLeast (D := D) l J x4 σ _ hq) (cwV 1 X.1.2.2.2.2 gX8_copying_X3_hitAtLeast rfl rfl rfl nd_X3_hitAtLeast ⟨Nat.le_of_ble_eq_true rfl, Nat.le_of_ble_eq_true rfl⟩) (hh_preV X h fc_9_0 kc_9 [.int x4]) rfl rfl hl.1 rfl (lv_room (Nat.le_of_ble_eq_true rfl)) dX8_copying_173 ⟨Nat.le_of_ble_eq_true rfl, Nat.le_of_ble_eq_true rfl⟩) (fun σ3 H locs hq h => ?_)
        refine lv_aload_n hx hb1 dX8_copying_176 rfl (lv_at hl 0 rfl) ?_
        refine hh_getr X h fc_0_7 in_X8_copying_X8 kc_0 (by decide) (List.mem_of_getElem? (i := 4) rfl) rfl dX8_copying_177 ?_
        refine lv_iload_n hx hb1 dX8_copying_180 rfl (lv_at hl 3 rfl) ?_
        refine hh_kL h (va_runV (As := [.int x3]) (rest := []) X.1 (ad_X3_part (D := D) l J x3 σ3 _ hq) (cwV 1 X.1.2.2.2.2 gX8_copying_X3_part rfl rfl rfl nd_X3_part ⟨Nat.le_of_ble_eq_true rfl, Nat.le_of_ble_eq_true rfl⟩) (hh_preV X h fc_9_0 kc_9 [.int x3]) rfl rfl hl.1 rfl (lv_room (Nat.le_of_ble_eq_true rfl)) dX8_copying_181 ⟨Nat.le_of_ble_eq_true rfl, Nat.le_of_ble_eq_true rfl⟩) (fun r4 σ5 H locs hq h => ?_)
        exact hh_lret X h hr hlocks hq dX8_copying_184
      · have hq := hq.2 c1
        refine lv_aload_n hx hb1 dX8_copying_69 rfl (lv_at hl 0 rfl) ?_
        refine hh_getr X h fc_0_7 in_X8_copying_X8 kc_0 (by decide) (List.mem_of_getElem? (i := 4) rfl) rfl dX8_copying_70 ?_
        refine hh_geti X h (q := 576) fc_9_0 rfl in_X8_copying_X3 kc_9 (by decide) (List.mem_of_getElem? (i := 7) rfl) rfl dX8_copying_73 ?_
        refine lv_bipush (v := (14 : Int32)) hx hb1 dX8_copying_76 (by decide) ?_
        refine lv_icmp_ge (tgt := 167) hx hb1 dX8_copying_78 (by decide) (fun c6 => ?_) (fun c6 => ?_)
        · have hq := hq.1 c6
          refine lv_aload_n hx hb1 dX8_copying_167 rfl (lv_at hl 0 rfl) ?_
          refine hh_getr X h fc_0_7 in_X8_copying_X8 kc_0 (by decide) (List.mem_of_getElem? (i := 4) rfl) rfl dX8_copying_168 ?_
          refine lv_iload hx hb1 dX8_copying_171 (lv_at hl 4 rfl) ?_
          refine hh_kV h (va_runV (As := [.int x4]) (rest := []) X.1 (ad_X3_hitAtLeast (D := D) l J x4 σ _ hq) (cwV 1 X.1.2.2.2.2 gX8_copying_X3_hitAtLeast rfl rfl rfl nd_X3_hitAtLeast ⟨Nat.le_of_ble_eq_true rfl, Nat.le_of_ble_eq_true rfl⟩) (hh_preV X h fc_9_0 kc_9 [.int x4]) rfl rfl hl.1 rfl (lv_room (Nat.le_of_ble_eq_true rfl)) dX8_copying_173 ⟨Nat.le_of_ble_eq_true rfl, Nat.le_of_ble_eq_true rfl⟩) (fun σ8 H locs hq h => ?_)
          refine lv_aload_n hx hb1 dX8_copying_176 rfl (lv_at hl 0 rfl) ?_
          refine hh_getr X h fc_0_7 in_X8_copying_X8 kc_0 (by decide) (List.mem_of_getElem? (i := 4) rfl) rfl dX8_copying_177 ?_
          refine lv_iload_n hx hb1 dX8_copying_180 rfl (lv_at hl 3 rfl) ?_
          refine hh_kL h (va_runV (As := [.int x3]) (rest := []) X.1 (ad_X3_part (D := D) l J x3 σ8 _ hq) (cwV 1 X.1.2.2.2.2 gX8_copying_X3_part rfl rfl rfl nd_X3_part ⟨Nat.le_of_ble_eq_true rfl, Nat.le_of_ble_eq_true rfl⟩) (hh_preV X h fc_9_0 kc_9 [.int x3]) rfl rfl hl.1 rfl (lv_room (Nat.le_of_ble_eq_true rfl)) dX8_copying_181 ⟨Nat.le_of_ble_eq_true rfl, Nat.le_of_ble_eq_true rfl⟩) (fun r9 σ10 H locs hq h => ?_)
          exact hh_lret X h hr hlocks hq dX8_copying_184
        · have hq := hq.2 c6
          refine lv_aload_n hx hb1 dX8_copying_81 rfl (lv_at hl 0 rfl) ?_
          refine hh_getr X h fc_0_3 in_X8_copying_X8 kc_0 (by decide) (List.mem_of_getElem? (i := 1) rfl) rfl dX8_copying_82 ?_
          refine lv_iload_n hx hb1 dX8_copying_85 rfl (lv_at hl 1 rfl) ?_
          refine lv_iload hx hb1 dX8_copying_86 (lv_at hl 5 rfl) ?_
          refine hh_kI h (va_runV (As := [.int x1, .int x5]) (rest := []) X.1 (ad_X0_counts (D := D) l J x1 x5 σ _ hq) (cwV 2 X.1.2.2.2.2 gX8_copying_X0_counts rfl rfl rfl nd_X0_counts ⟨Nat.le_of_ble_eq_true rfl, Nat.le_of_ble_eq_true rfl⟩) (hh_preV X h fc_5_0 kc_5 [.int x1, .int x5]) rfl rfl hl.1 rfl (lv_room (Nat.le_of_ble_eq_true rfl)) dX8_copying_88 ⟨Nat.le_of_ble_eq_true rfl, Nat.le_of_ble_eq_true rfl⟩) (fun r11 σ12 H locs hq h => ?_)
          refine lv_if_eq (tgt := 161) hx hb1 dX8_copying_91 (by decide) (fun c13 => ?_) (fun c13 => ?_)
          · have hq := hq.1 c13
            refine lv_iinc (v := (x5 + (1 : Int32))) (lv' := [(5, .int (x5 + (1 : Int32))), (0, .ref (ad 0)), (1, .int x1), (2, .int x2), (3, .int x3), (4, .int x4)]) hx hb1 dX8_copying_161 hl (k := 5) rfl rfl (by decide) rfl (fun ls hl => ?_)
            refine lv_goto (tgt := 57) hx hb1 dX8_copying_164 (by decide) ?_
            exact ih x4 (x5 + (1 : Int32)) σ12 _ _ ls hq h (lv_sub hl [1, 2, 3, 4, 5, 0] rfl)
          · have hq := hq.2 c13
            refine lv_aload_n hx hb1 dX8_copying_94 rfl (lv_at hl 0 rfl) ?_
            refine hh_getr X h fc_0_3 in_X8_copying_X8 kc_0 (by decide) (List.mem_of_getElem? (i := 1) rfl) rfl dX8_copying_95 ?_
            refine lv_iload_n hx hb1 dX8_copying_98 rfl (lv_at hl 2 rfl) ?_
            refine lv_iload hx hb1 dX8_copying_99 (lv_at hl 5 rfl) ?_
            refine hh_kI h (va_runV (As := [.int x2, .int x5]) (rest := []) X.1 (ad_X0_counts (D := D) l J x2 x5 σ12 _ hq) (cwV 2 X.1.2.2.2.2 gX8_copying_X0_counts rfl rfl rfl nd_X0_counts ⟨Nat.le_of_ble_eq_true rfl, Nat.le_of_ble_eq_true rfl⟩) (hh_preV X h fc_5_0 kc_5 [.int x2, .int x5]) rfl rfl hl.1 rfl (lv_room (Nat.le_of_ble_eq_true rfl)) dX8_copying_101 ⟨Nat.le_of_ble_eq_true rfl, Nat.le_of_ble_eq_true rfl⟩) (fun r14 σ15 H locs hq h => ?_)
            refine lv_if_eq (tgt := 161) hx hb1 dX8_copying_104 (by decide) (fun c16 => ?_) (fun c16 => ?_)
            · have hq := hq.1 c16
              refine lv_iinc (v := (x5 + (1 : Int32))) (lv' := [(5, .int (x5 + (1 : Int32))), (0, .ref (ad 0)), (1, .int x1), (2, .int x2), (3, .int x3), (4, .int x4)]) hx hb1 dX8_copying_161 hl (k := 5) rfl rfl (by decide) rfl (fun ls hl => ?_)
              refine lv_goto (tgt := 57) hx hb1 dX8_copying_164 (by decide) ?_
              exact ih x4 (x5 + (1 : Int32)) σ15 _ _ ls hq h (lv_sub hl [1, 2, 3, 4, 5, 0] rfl)
            · have hq := hq.2 c16
              refine lv_aload_n hx hb1 dX8_copying_107 rfl (lv_at hl 0 rfl) ?_
              refine hh_getr X h fc_0_7 in_X8_copying_X8 kc_0 (by decide) (List.mem_of_getElem? (i := 4) rfl) rfl dX8_copying_108 ?_
              refine lv_aload_n hx hb1 dX8_copying_111 rfl (lv_at hl 0 rfl) ?_
              refine hh_getr X h fc_0_2 in_X8_copying_X8 kc_0 (by decide) (List.mem_of_getElem? (i := 5) rfl) rfl dX8_copying_112 ?_
              refine hh_getr X h fc_4_3 in_X8_copying_X1 kc_4 (by decide) (List.mem_of_getElem? (i := 8) rfl) rfl dX8_copying_115 ?_
              refine lv_iload hx hb1 dX8_copying_118 (lv_at hl 5 rfl) ?_
              obtain ⟨h17, hq⟩ := hq
              refine hh_ild X h ac_22 h17 dX8_copying_120 ?_
              refine hh_kV h (va_runV (As := [.int (hh_rA σ15 22 x5)]) (rest := []) X.1 (ad_X3_draw (D := D) l J (hh_rA σ15 22 x5) σ15 _ hq) (cwV 1 X.1.2.2.2.2 gX8_copying_X3_draw rfl rfl rfl nd_X3_draw ⟨Nat.le_of_ble_eq_true rfl, Nat.le_of_ble_eq_true rfl⟩) (hh_preV X h fc_9_0 kc_9 [.int (hh_rA σ15 22 x5)]) rfl rfl hl.1 rfl (lv_room (Nat.le_of_ble_eq_true rfl)) dX8_copying_121 ⟨Nat.le_of_ble_eq_true rfl, Nat.le_of_ble_eq_true rfl⟩) (fun σ19 H locs hq h => ?_)
              refine lv_iload hx hb1 dX8_copying_124 (lv_at hl 4 rfl) ?_
              refine lv_aload_n hx hb1 dX8_copying_126 rfl (lv_at hl 0 rfl) ?_
              refine hh_getr X h fc_0_3 in_X8_copying_X8 kc_0 (by decide) (List.mem_of_getElem? (i := 1) rfl) rfl dX8_copying_127 ?_
              refine hh_getr X h fc_5_3 in_X8_copying_X0 kc_5 (by decide) (List.mem_of_getElem? (i := 9) rfl) rfl dX8_copying_130 ?_
              refine lv_iload_n hx hb1 dX8_copying_133 rfl (lv_at hl 1 rfl) ?_
              obtain ⟨h20, hq⟩ := hq
              refine hh_ald X h ac_28 h20 dX8_copying_134 ?_
              refine lv_iload hx hb1 dX8_copying_135 (lv_at hl 5 rfl) ?_
              obtain ⟨h21, hq⟩ := hq
              refine hh_ild X h (ar_said h20) h21 dX8_copying_137 ?_
              refine lv_aload_n hx hb1 dX8_copying_138 rfl (lv_at hl 0 rfl) ?_
              refine hh_getr X h fc_0_3 in_X8_copying_X8 kc_0 (by decide) (List.mem_of_getElem? (i := 1) rfl) rfl dX8_copying_139 ?_
              refine hh_getr X h fc_5_3 in_X8_copying_X0 kc_5 (by decide) (List.mem_of_getElem? (i := 9) rfl) rfl dX8_copying_142 ?_
              refine lv_iload_n hx hb1 dX8_copying_145 rfl (lv_at hl 2 rfl) ?_
              obtain ⟨h22, hq⟩ := hq
              refine hh_ald X h ac_28 h22 dX8_copying_146 ?_
              refine lv_iload hx hb1 dX8_copying_147 (lv_at hl 5 rfl) ?_
              obtain ⟨h23, hq⟩ := hq
              refine hh_ild X h (ar_said h22) h23 dX8_copying_149 ?_
              refine lv_icmp_ne (tgt := 157) hx hb1 dX8_copying_150 (by decide) (fun c24 => ?_) (fun c24 => ?_)
              · have hq := hq.1 c24
                refine lv_iconst (v := (0 : Int32)) hx hb1 dX8_copying_157 (by decide) ?_
                refine lv_iadd hx hb1 dX8_copying_158 ?_
                refine lv_topi (fun v25 ev25 => ?_)
                have hq := hq v25 ev25
                refine lv_istore (lv' := [(4, .int v25), (0, .ref (ad 0)), (1, .int x1), (2, .int x2), (3, .int x3), (5, .int x5)]) hx hb1 dX8_copying_159 hl (by decide) rfl (fun ls hl => ?_)
                refine lv_iinc (v := (x5 + (1 : Int32))) (lv' := [(5, .int (x5 + (1 : Int32))), (4, .int v25), (0, .ref (ad 0)), (1, .int x1), (2, .int x2), (3, .int x3)]) hx hb1 dX8_copying_161 hl (k := 5) rfl rfl (by decide) rfl (fun ls hl => ?_)
                refine lv_goto (tgt := 57) hx hb1 dX8_copying_164 (by decide) ?_
                exact ih v25 (x5 + (1 : Int32)) σ19 _ _ ls hq h (lv_sub hl [2, 3, 4, 5, 1, 0] rfl)
              · have hq := hq.2 c24
                refine lv_iconst (v := (1 : Int32)) hx hb1 dX8_copying_153 (by decide) ?_
                refine lv_goto (tgt := 158) hx hb1 dX8_copying_154 (by decide) ?_
                refine lv_iadd hx hb1 dX8_copying_158 ?_
                refine lv_topi (fun v26 ev26 => ?_)
                have hq := hq v26 ev26
                refine lv_istore (lv' := [(4, .int v26), (0, .ref (ad 0)), (1, .int x1), (2, .int x2), (3, .int x3), (5, .int x5)]) hx hb1 dX8_copying_159 hl (by decide) rfl (fun ls hl => ?_)
                refine lv_iinc (v := (x5 + (1 : Int32))) (lv' := [(5, .int (x5 + (1 : Int32))), (4, .int v26), (0, .ref (ad 0)), (1, .int x1), (2, .int x2), (3, .int x3)]) hx hb1 dX8_copying_161 hl (k := 5) rfl rfl (by decide) rfl (fun ls hl => ?_)
                refine lv_goto (tgt := 57) hx hb1 dX8_copying_164 (by decide) ?_
                exact ih v26 (x5 + (1 : Int32)) σ19 _ _ ls hq h (lv_sub hl [2, 3, 4, 5, 1, 0] rfl)
  subst hargs
  refine hh_entry (vs := [.ref (ad 0), .int x1, .int x2, .int x3]) (Nat.le_of_ble_eq_true rfl) (fun ls hl => ?_)
  have hl : lv_has ls 6 [(0, .ref (ad 0)), (1, .int x1), (2, .int x2), (3, .int x3)] := hl
  have hq : wp_X8_copying x1 x2 x3 σ Q := hq
  unfold wp_X8_copying at hq
  refine lv_aload_n hx hb1 dX8_copying_0 rfl (lv_at hl 0 rfl) ?_
  refine hh_getr X h fc_0_3 in_X8_copying_X8 kc_0 (by decide) (List.mem_of_getElem? (i := 1) rfl) rfl dX8_copying_1 ?_
  refine lv_iload_n hx hb1 dX8_copying_4 rfl (lv_at hl 1 rfl) ?_
  refine hh_kI h (va_runV (As := [.int x1]) (rest := []) X.1 (ad_X0_has (D := D) l J x1 σ _ hq) (cwV 1 X.1.2.2.2.2 gX8_copying_X0_has rfl rfl rfl nd_X0_has ⟨Nat.le_of_ble_eq_true rfl, Nat.le_of_ble_eq_true rfl⟩) (hh_preV X h fc_5_0 kc_5 [.int x1]) rfl rfl hl.1 rfl (lv_room (Nat.le_of_ble_eq_true rfl)) dX8_copying_5 ⟨Nat.le_of_ble_eq_true rfl, Nat.le_of_ble_eq_true rfl⟩) (fun r27 σ28 H locs hq h => ?_)
  refine lv_if_eq (tgt := 27) hx hb1 dX8_copying_8 (by decide) (fun c29 => ?_) (fun c29 => ?_)
  · have hq := hq.1 c29
    refine lv_ldc2 (v := (-1000000000000000001 : Int64)) hx hb1 X.1.2.2.2.1 (X.1.2.2.2.2 _ (List.mem_of_getElem? (i := 2) rfl)) dX8_copying_27 ?_
    exact hh_lret X h hr hlocks hq dX8_copying_30
  · have hq := hq.2 c29
    refine lv_aload_n hx hb1 dX8_copying_11 rfl (lv_at hl 0 rfl) ?_
    refine hh_getr X h fc_0_3 in_X8_copying_X8 kc_0 (by decide) (List.mem_of_getElem? (i := 1) rfl) rfl dX8_copying_12 ?_
    refine lv_iload_n hx hb1 dX8_copying_15 rfl (lv_at hl 2 rfl) ?_
    refine hh_kI h (va_runV (As := [.int x2]) (rest := []) X.1 (ad_X0_has (D := D) l J x2 σ28 _ hq) (cwV 1 X.1.2.2.2.2 gX8_copying_X0_has rfl rfl rfl nd_X0_has ⟨Nat.le_of_ble_eq_true rfl, Nat.le_of_ble_eq_true rfl⟩) (hh_preV X h fc_5_0 kc_5 [.int x2]) rfl rfl hl.1 rfl (lv_room (Nat.le_of_ble_eq_true rfl)) dX8_copying_16 ⟨Nat.le_of_ble_eq_true rfl, Nat.le_of_ble_eq_true rfl⟩) (fun r30 σ31 H locs hq h => ?_)
    refine lv_if_eq (tgt := 27) hx hb1 dX8_copying_19 (by decide) (fun c32 => ?_) (fun c32 => ?_)
    · have hq := hq.1 c32
      refine lv_ldc2 (v := (-1000000000000000001 : Int64)) hx hb1 X.1.2.2.2.1 (X.1.2.2.2.2 _ (List.mem_of_getElem? (i := 2) rfl)) dX8_copying_27 ?_
      exact hh_lret X h hr hlocks hq dX8_copying_30
    · have hq := hq.2 c32
      refine lv_iload_n hx hb1 dX8_copying_22 rfl (lv_at hl 1 rfl) ?_
      refine lv_iload_n hx hb1 dX8_copying_23 rfl (lv_at hl 2 rfl) ?_
      refine lv_icmp_ne (tgt := 31) hx hb1 dX8_copying_24 (by decide) (fun c33 => ?_) (fun c33 => ?_)
      · have hq := hq.1 c33
        refine lv_iload_n hx hb1 dX8_copying_31 rfl (lv_at hl 3 rfl) ?_
        refine lv_if_lt (tgt := 40) hx hb1 dX8_copying_32 (by decide) (fun c34 => ?_) (fun c34 => ?_)
        · have hq := hq.1 c34
          refine lv_ldc2 (v := (-1000000000000000002 : Int64)) hx hb1 X.1.2.2.2.1 (X.1.2.2.2.2 _ (List.mem_of_getElem? (i := 3) rfl)) dX8_copying_40 ?_
          exact hh_lret X h hr hlocks hq dX8_copying_43
        · have hq := hq.2 c34
          refine lv_iload_n hx hb1 dX8_copying_35 rfl (lv_at hl 3 rfl) ?_
          refine lv_iconst (v := (1 : Int32)) hx hb1 dX8_copying_36 (by decide) ?_
          refine lv_icmp_le (tgt := 44) hx hb1 dX8_copying_37 (by decide) (fun c35 => ?_) (fun c35 => ?_)
          · have hq := hq.1 c35
            refine lv_aload_n hx hb1 dX8_copying_44 rfl (lv_at hl 0 rfl) ?_
            refine hh_getr X h fc_0_7 in_X8_copying_X8 kc_0 (by decide) (List.mem_of_getElem? (i := 4) rfl) rfl dX8_copying_45 ?_
            refine hh_kV h (va_runV (As := []) (rest := []) X.1 (ad_X3_begin (D := D) l J σ31 _ hq) (cwV 0 X.1.2.2.2.2 gX8_copying_X3_begin rfl rfl rfl nd_X3_begin ⟨Nat.le_of_ble_eq_true rfl, Nat.le_of_ble_eq_true rfl⟩) (hh_preV X h fc_9_0 kc_9 []) rfl rfl hl.1 rfl (lv_room (Nat.le_of_ble_eq_true rfl)) dX8_copying_48 ⟨Nat.le_of_ble_eq_true rfl, Nat.le_of_ble_eq_true rfl⟩) (fun σ37 H locs hq h => ?_)
            refine lv_iconst (v := (0 : Int32)) hx hb1 dX8_copying_51 (by decide) ?_
            refine lv_istore (lv' := [(4, .int (0 : Int32)), (0, .ref (ad 0)), (1, .int x1), (2, .int x2), (3, .int x3)]) hx hb1 dX8_copying_52 hl (by decide) rfl (fun ls hl => ?_)
            refine lv_iconst (v := (0 : Int32)) hx hb1 dX8_copying_54 (by decide) ?_
            refine lv_istore (lv' := [(5, .int (0 : Int32)), (4, .int (0 : Int32)), (0, .ref (ad 0)), (1, .int x1), (2, .int x2), (3, .int x3)]) hx hb1 dX8_copying_55 hl (by decide) rfl (fun ls hl => ?_)
            obtain ⟨n38, hq⟩ := hq
            exact lt_57 x1 x2 x3 n38 (0 : Int32) (0 : Int32) σ37 _ _ ls hq h (lv_sub hl [2, 3, 4, 5, 1, 0] rfl)
          · have hq := hq.2 c35
            refine lv_ldc2 (v := (-1000000000000000002 : Int64)) hx hb1 X.1.2.2.2.1 (X.1.2.2.2.2 _ (List.mem_of_getElem? (i := 3) rfl)) dX8_copying_40 ?_
            exact hh_lret X h hr hlocks hq dX8_copying_43
      · have hq := hq.2 c33
        refine lv_ldc2 (v := (-1000000000000000001 : Int64)) hx hb1 X.1.2.2.2.1 (X.1.2.2.2.2 _ (List.mem_of_getElem? (i := 2) rfl)) dX8_copying_27 ?_
        exact hh_lret X h hr hlocks hq dX8_copying_30
theorem nd_X8_isMisread : yX8_isMisread.cls = RX8 ∧ yX8_isMisread.cls ≠ "java/lang/invoke/MethodHandle" ∧ yX8_isMisread.cls ≠ "java/lang/invoke/VarHandle" ∧ (parseMethodDescriptor yX8_isMisread.desc).map (fun d => d.parameters.length) = some 2 := by decide +kernel
abbrev rm_X8_isMisread : Room := { frames := 2, cells := 0, slots := 0, locals := 46 }
def wq_X8_isMisread_2 (x1 : Int32) (x2 : Int32) (Q : Int32 → hh_S → Prop) (K2 : Int32 → hh_S → Prop) (x3 : Int32) (σ : hh_S) : Prop := (vp_in x1 24 ∧ (((hh_rA σ 22 x1) ≤ x3 → (Q (0 : Int32) σ)) ∧ (¬ (hh_rA σ 22 x1) ≤ x3 → (vp_in x1 24 ∧ ((x3 = (hh_rA σ 23 x1) → (K2 (x3 + (1 : Int32)) σ)) ∧ (¬ x3 = (hh_rA σ 23 x1) → (wp_X0_countWith x1 x3 σ (fun (r5 : Int32) (σ6 : hh_S) => ((r5 < x2 → (K2 (x3 + (1 : Int32)) σ6)) ∧ (¬ r5 < x2 → (Q (1 : Int32) σ6)))))))))))
def wp_X8_isMisread (x1 : Int32) (x2 : Int32) (σ : hh_S) (Q : Int32 → hh_S → Prop) : Prop := (∃ n : Nat, hh_lp1 (wq_X8_isMisread_2 x1 x2 Q) n (0 : Int32) σ)
theorem in_X8_isMisread_X8 : ∀ w ∈ u_ws RX8 TX8 13, w ∈ wsX8_isMisread := fun w h => List.mem_cons_of_mem _ (List.mem_append_left _ (List.mem_append_left _ (List.mem_append_right _ h)))
theorem in_X8_isMisread_X1 : ∀ w ∈ u_ws RX1 TX1 7, w ∈ wsX8_isMisread := fun w h => List.mem_cons_of_mem _ (List.mem_append_left _ (List.mem_append_right _ h))
theorem in_X8_isMisread_X0 : ∀ w ∈ u_ws RX0 TX0 4, w ∈ wsX8_isMisread := fun w h => List.mem_cons_of_mem _ (List.mem_append_right _ h)
set_option maxHeartbeats 4000000 in
set_option maxRecDepth 100000 in
theorem ad_X8_isMisread {D : va_G} (l : Launch) {cy : Nat → ClassId} {ad : Nat → Nat} (J : hh_J hc_Y ad) (x1 : Int32) (x2 : Int32) (σ : hh_S) (Q : Int32 → hh_S → Prop) (hq : wp_X8_isMisread x1 x2 σ Q) : Met l yX8_isMisread wsX8_isMisread rm_X8_isMisread (va_Pc [.ref (ad 0), .int x1, .int x2] (hh_B D hh_cl hc_Y cy ad σ)) (va_Qi Q (hh_B D hh_cl hc_Y cy ad) (hh_A hc_Y ad)) 0 0 (hh_A hc_Y ad) := by
  refine Met.ofW (cc := cX8_isMisread) (maxL := 4) (ret := (some .boolean)) (by decide) rfl ?_
  intro p e s m args below meth c s₁ B hml hv
  obtain ⟨hargs, hP0, hK0⟩ := hv
  have hr := B.returns
  have hlocks := B.notSynchronized
  have X : hh_X p m c cX8_isMisread 4 s args wsX8_isMisread RX8 D hh_cl hc_Y cy ad := ⟨⟨B.exec, B.bytes, hml, findClass_of_methodNamed B.named, atoms_spec (ws := wsX8_isMisread) B.pre⟩, hK0, J⟩
  have hx := X.1.1
  have hb1 := X.1.2.1
  have h : hh_H D hh_cl hc_Y cy ad s.heap σ s.heap [] := ⟨hP0, va_S.rf⟩
  have lt_2 : ∀ (x1 : Int32) (x2 : Int32) (n : Nat) (x3 : Int32) (σ : hh_S) (H : Heap) (locs : List Loc) (ls : Array Slot), hh_lp1 (wq_X8_isMisread_2 x1 x2 Q) n x3 σ → hh_H D hh_cl hc_Y cy ad s.heap σ H locs → lv_has ls 4 [(0, .ref (ad 0)), (1, .int x1), (2, .int x2), (3, .int x3)] → W p l e (headSpec wsX8_isMisread rm_X8_isMisread).room s m args below meth c H locs 0 0 (MQ below (va_Qi Q (hh_B D hh_cl hc_Y cy ad) (hh_A hc_Y ad)) args s 0 0 (hh_A hc_Y ad)) (F0 m 2 ls []) := by
    intro x1 x2 n
    induction n with
    | zero => intro x3 σ H locs ls hq h hl; exact hq.elim
    | succ n ih =>
      intro x3 σ H locs ls hq h hl
      have hq : wq_X8_isMisread_2 x1 x2 Q (hh_lp1 (wq_X8_isMisread_2 x1 x2 Q) n) x3 σ := hq
      unfold wq_X8_isMisread_2 at hq
      refine lv_iload_n hx hb1 dX8_isMisread_2 rfl (lv_at hl 3 rfl) ?_
      refine lv_aload_n hx hb1 dX8_isMisread_3 rfl (lv_at hl 0 rfl) ?_
      refine hh_getr X h fc_0_2 in_X8_isMisread_X8 kc_0 (by decide) (List.mem_of_getElem? (i := 1) rfl) rfl dX8_isMisread_4 ?_
      refine hh_getr X h fc_4_3 in_X8_isMisread_X1 kc_4 (by decide) (List.mem_of_getElem? (i := 2) rfl) rfl dX8_isMisread_7 ?_
      refine lv_iload_n hx hb1 dX8_isMisread_10 rfl (lv_at hl 1 rfl) ?_
      obtain ⟨h1, hq⟩ := hq
      refine hh_ild X h ac_22 h1 dX8_isMisread_11 ?_
      refine lv_icmp_ge (tgt := 49) hx hb1 dX8_isMisread_12 (by decide) (fun c2 => ?_) (fun c2 => ?_)
      · have hq := hq.1 c2
        refine lv_iconst (v := (0 : Int32)) hx hb1 dX8_isMisread_49 (by decide) ?_
        exact hh_zret X h hr hlocks rfl hq dX8_isMisread_50
      · have hq := hq.2 c2
        refine lv_iload_n hx hb1 dX8_isMisread_15 rfl (lv_at hl 3 rfl) ?_
        refine lv_aload_n hx hb1 dX8_isMisread_16 rfl (lv_at hl 0 rfl) ?_
        refine hh_getr X h fc_0_2 in_X8_isMisread_X8 kc_0 (by decide) (List.mem_of_getElem? (i := 1) rfl) rfl dX8_isMisread_17 ?_
        refine hh_getr X h fc_4_4 in_X8_isMisread_X1 kc_4 (by decide) (List.mem_of_getElem? (i := 3) rfl) rfl dX8_isMisread_20 ?_
        refine lv_iload_n hx hb1 dX8_isMisread_23 rfl (lv_at hl 1 rfl) ?_
        obtain ⟨h3, hq⟩ := hq
        refine hh_ild X h ac_23 h3 dX8_isMisread_24 ?_
        refine lv_icmp_eq (tgt := 43) hx hb1 dX8_isMisread_25 (by decide) (fun c4 => ?_) (fun c4 => ?_)
        · have hq := hq.1 c4
          refine lv_iinc (v := (x3 + (1 : Int32))) (lv' := [(3, .int (x3 + (1 : Int32))), (0, .ref (ad 0)), (1, .int x1), (2, .int x2)]) hx hb1 dX8_isMisread_43 hl (k := 3) rfl rfl (by decide) rfl (fun ls hl => ?_)
          refine lv_goto (tgt := 2) hx hb1 dX8_isMisread_46 (by decide) ?_
          exact ih (x3 + (1 : Int32)) σ _ _ ls hq h (lv_sub hl [1, 2, 3, 0] rfl)
        · have hq := hq.2 c4
          refine lv_aload_n hx hb1 dX8_isMisread_28 rfl (lv_at hl 0 rfl) ?_
          refine hh_getr X h fc_0_3 in_X8_isMisread_X8 kc_0 (by decide) (List.mem_of_getElem? (i := 4) rfl) rfl dX8_isMisread_29 ?_
          refine lv_iload_n hx hb1 dX8_isMisread_32 rfl (lv_at hl 1 rfl) ?_
          refine lv_iload_n hx hb1 dX8_isMisread_33 rfl (lv_at hl 3 rfl) ?_
          refine hh_kI h (va_runV (As := [.int x1, .int x3]) (rest := []) X.1 (ad_X0_countWith (D := D) l J x1 x3 σ _ hq) (cwV 2 X.1.2.2.2.2 gX8_isMisread_X0_countWith rfl rfl rfl nd_X0_countWith ⟨Nat.le_of_ble_eq_true rfl, Nat.le_of_ble_eq_true rfl⟩) (hh_preV X h fc_5_0 kc_5 [.int x1, .int x3]) rfl rfl hl.1 rfl (lv_room (Nat.le_of_ble_eq_true rfl)) dX8_isMisread_34 ⟨Nat.le_of_ble_eq_true rfl, Nat.le_of_ble_eq_true rfl⟩) (fun r5 σ6 H locs hq h => ?_)
          refine lv_iload_n hx hb1 dX8_isMisread_37 rfl (lv_at hl 2 rfl) ?_
          refine lv_icmp_lt (tgt := 43) hx hb1 dX8_isMisread_38 (by decide) (fun c7 => ?_) (fun c7 => ?_)
          · have hq := hq.1 c7
            refine lv_iinc (v := (x3 + (1 : Int32))) (lv' := [(3, .int (x3 + (1 : Int32))), (0, .ref (ad 0)), (1, .int x1), (2, .int x2)]) hx hb1 dX8_isMisread_43 hl (k := 3) rfl rfl (by decide) rfl (fun ls hl => ?_)
            refine lv_goto (tgt := 2) hx hb1 dX8_isMisread_46 (by decide) ?_
            exact ih (x3 + (1 : Int32)) σ6 _ _ ls hq h (lv_sub hl [1, 2, 3, 0] rfl)
          · have hq := hq.2 c7
            refine lv_iconst (v := (1 : Int32)) hx hb1 dX8_isMisread_41 (by decide) ?_
            exact hh_zret X h hr hlocks rfl hq dX8_isMisread_42
  subst hargs
  refine hh_entry (vs := [.ref (ad 0), .int x1, .int x2]) (Nat.le_of_ble_eq_true rfl) (fun ls hl => ?_)
  have hl : lv_has ls 4 [(0, .ref (ad 0)), (1, .int x1), (2, .int x2)] := hl
  have hq : wp_X8_isMisread x1 x2 σ Q := hq
  unfold wp_X8_isMisread at hq
  refine lv_iconst (v := (0 : Int32)) hx hb1 dX8_isMisread_0 (by decide) ?_
  refine lv_istore_n (lv' := [(3, .int (0 : Int32)), (0, .ref (ad 0)), (1, .int x1), (2, .int x2)]) hx hb1 dX8_isMisread_1 rfl hl (by decide) rfl (fun ls hl => ?_)
  obtain ⟨n8, hq⟩ := hq
  exact lt_2 x1 x2 n8 (0 : Int32) σ _ _ ls hq h (lv_sub hl [1, 2, 3, 0] rfl)
theorem nd_X8_misread : yX8_misread.cls = RX8 ∧ yX8_misread.cls ≠ "java/lang/invoke/MethodHandle" ∧ yX8_misread.cls ≠ "java/lang/invoke/VarHandle" ∧ (parseMethodDescriptor yX8_misread.desc).map (fun d => d.parameters.length) = some 1 := by decide +kernel
abbrev rm_X8_misread : Room := { frames := 3, cells := 0, slots := 0, locals := 69 }
def wq_X8_misread_18 (x1 : Int32) (Q : Int32 → hh_S → Prop) (K18 : Int32 → Int32 → hh_S → Prop) (x2 : Int32) (x3 : Int32) (σ : hh_S) : Prop := (((hh_I σ 256) ≤ x3 → (Q x2 σ)) ∧ (¬ (hh_I σ 256) ≤ x3 → (vp_in x3 24 ∧ (((hh_rA σ 23 x3) = (-6 : Int32) → (K18 x2 (x3 + (1 : Int32)) σ)) ∧ (¬ (hh_rA σ 23 x3) = (-6 : Int32) → (wp_X8_isMisread x3 x1 σ (fun (r4 : Int32) (σ5 : hh_S) => ((r4 = 0 → (K18 x2 (x3 + (1 : Int32)) σ5)) ∧ (¬ r4 = 0 → (vp_in x3 24 ∧ (∀ v8 : Int32, v8 = (x2 ||| (hh_rA σ5 25 x3)) → (K18 v8 (x3 + (1 : Int32)) σ5))))))))))))
def wp_X8_misread (x1 : Int32) (σ : hh_S) (Q : Int32 → hh_S → Prop) : Prop := ((x1 < (1 : Int32) → (Q (-2 : Int32) σ)) ∧ (¬ x1 < (1 : Int32) → ((x1 ≤ (10 : Int32) → (∃ n : Nat, hh_lp2 (wq_X8_misread_18 x1 Q) n (0 : Int32) (0 : Int32) σ)) ∧ (¬ x1 ≤ (10 : Int32) → (Q (-2 : Int32) σ)))))
theorem in_X8_misread_X8 : ∀ w ∈ u_ws RX8 TX8 13, w ∈ wsX8_misread := fun w h => List.mem_cons_of_mem _ (List.mem_append_left _ (List.mem_append_left _ (List.mem_append_right _ h)))
theorem in_X8_misread_X1 : ∀ w ∈ u_ws RX1 TX1 7, w ∈ wsX8_misread := fun w h => List.mem_cons_of_mem _ (List.mem_append_left _ (List.mem_append_right _ h))
theorem in_X8_misread_X0 : ∀ w ∈ u_ws RX0 TX0 4, w ∈ wsX8_misread := fun w h => List.mem_cons_of_mem _ (List.mem_append_right _ h)
set_option maxHeartbeats 4000000 in
set_option maxRecDepth 100000 in
theorem ad_X8_misread {D : va_G} (l : Launch) {cy : Nat → ClassId} {ad : Nat → Nat} (J : hh_J hc_Y ad) (x1 : Int32) (σ : hh_S) (Q : Int32 → hh_S → Prop) (hq : wp_X8_misread x1 σ Q) : Met l yX8_misread wsX8_misread rm_X8_misread (va_Pc [.ref (ad 0), .int x1] (hh_B D hh_cl hc_Y cy ad σ)) (va_Qi Q (hh_B D hh_cl hc_Y cy ad) (hh_A hc_Y ad)) 0 0 (hh_A hc_Y ad) := by
  refine Met.ofW (cc := cX8_misread) (maxL := 4) (ret := (some .int)) (by decide) rfl ?_
  intro p e s m args below meth c s₁ B hml hv
  obtain ⟨hargs, hP0, hK0⟩ := hv
  have hr := B.returns
  have hlocks := B.notSynchronized
  have X : hh_X p m c cX8_misread 4 s args wsX8_misread RX8 D hh_cl hc_Y cy ad := ⟨⟨B.exec, B.bytes, hml, findClass_of_methodNamed B.named, atoms_spec (ws := wsX8_misread) B.pre⟩, hK0, J⟩
  have hx := X.1.1
  have hb1 := X.1.2.1
  have h : hh_H D hh_cl hc_Y cy ad s.heap σ s.heap [] := ⟨hP0, va_S.rf⟩
  have lt_18 : ∀ (x1 : Int32) (n : Nat) (x2 : Int32) (x3 : Int32) (σ : hh_S) (H : Heap) (locs : List Loc) (ls : Array Slot), hh_lp2 (wq_X8_misread_18 x1 Q) n x2 x3 σ → hh_H D hh_cl hc_Y cy ad s.heap σ H locs → lv_has ls 4 [(0, .ref (ad 0)), (1, .int x1), (2, .int x2), (3, .int x3)] → W p l e (headSpec wsX8_misread rm_X8_misread).room s m args below meth c H locs 0 0 (MQ below (va_Qi Q (hh_B D hh_cl hc_Y cy ad) (hh_A hc_Y ad)) args s 0 0 (hh_A hc_Y ad)) (F0 m 18 ls []) := by
    intro x1 n
    induction n with
    | zero => intro x2 x3 σ H locs ls hq h hl; exact hq.elim
    | succ n ih =>
      intro x2 x3 σ H locs ls hq h hl
      have hq : wq_X8_misread_18 x1 Q (hh_lp2 (wq_X8_misread_18 x1 Q) n) x2 x3 σ := hq
      unfold wq_X8_misread_18 at hq
      refine lv_iload_n hx hb1 dX8_misread_18 rfl (lv_at hl 3 rfl) ?_
      refine lv_aload_n hx hb1 dX8_misread_19 rfl (lv_at hl 0 rfl) ?_
      refine hh_getr X h fc_0_2 in_X8_misread_X8 kc_0 (by decide) (List.mem_of_getElem? (i := 1) rfl) rfl dX8_misread_20 ?_
      refine hh_geti X h (q := 256) fc_4_0 rfl in_X8_misread_X1 kc_4 (by decide) (List.mem_of_getElem? (i := 2) rfl) rfl dX8_misread_23 ?_
      refine lv_icmp_ge (tgt := 70) hx hb1 dX8_misread_26 (by decide) (fun c1 => ?_) (fun c1 => ?_)
      · have hq := hq.1 c1
        refine lv_iload_n hx hb1 dX8_misread_70 rfl (lv_at hl 2 rfl) ?_
        exact hh_iret X h hr hlocks hq dX8_misread_71
      · have hq := hq.2 c1
        refine lv_aload_n hx hb1 dX8_misread_29 rfl (lv_at hl 0 rfl) ?_
        refine hh_getr X h fc_0_2 in_X8_misread_X8 kc_0 (by decide) (List.mem_of_getElem? (i := 1) rfl) rfl dX8_misread_30 ?_
        refine hh_getr X h fc_4_4 in_X8_misread_X1 kc_4 (by decide) (List.mem_of_getElem? (i := 3) rfl) rfl dX8_misread_33 ?_
        refine lv_iload_n hx hb1 dX8_misread_36 rfl (lv_at hl 3 rfl) ?_
        obtain ⟨h2, hq⟩ := hq
        refine hh_ild X h ac_23 h2 dX8_misread_37 ?_
        refine lv_bipush (v := (-6 : Int32)) hx hb1 dX8_misread_38 (by decide) ?_
        refine lv_icmp_eq (tgt := 64) hx hb1 dX8_misread_40 (by decide) (fun c3 => ?_) (fun c3 => ?_)
        · have hq := hq.1 c3
          refine lv_iinc (v := (x3 + (1 : Int32))) (lv' := [(3, .int (x3 + (1 : Int32))), (0, .ref (ad 0)), (1, .int x1), (2, .int x2)]) hx hb1 dX8_misread_64 hl (k := 3) rfl rfl (by decide) rfl (fun ls hl => ?_)
          refine lv_goto (tgt := 18) hx hb1 dX8_misread_67 (by decide) ?_
          exact ih x2 (x3 + (1 : Int32)) σ _ _ ls hq h (lv_sub hl [1, 2, 3, 0] rfl)
        · have hq := hq.2 c3
          refine lv_aload_n hx hb1 dX8_misread_43 rfl (lv_at hl 0 rfl) ?_
          refine lv_iload_n hx hb1 dX8_misread_44 rfl (lv_at hl 3 rfl) ?_
          refine lv_iload_n hx hb1 dX8_misread_45 rfl (lv_at hl 1 rfl) ?_
          refine hh_kI h (va_runV (As := [.int x3, .int x1]) (rest := []) X.1 (ad_X8_isMisread (D := D) l J x3 x1 σ _ hq) (cwV 2 X.1.2.2.2.2 gX8_misread_X8_isMisread rfl rfl rfl nd_X8_isMisread ⟨Nat.le_of_ble_eq_true rfl, Nat.le_of_ble_eq_true rfl⟩) (hh_preV X h fc_0_0 kc_0 [.int x3, .int x1]) rfl rfl hl.1 rfl (lv_room (Nat.le_of_ble_eq_true rfl)) dX8_misread_46 ⟨Nat.le_of_ble_eq_true rfl, Nat.le_of_ble_eq_true rfl⟩) (fun r4 σ5 H locs hq h => ?_)
          refine lv_if_eq (tgt := 64) hx hb1 dX8_misread_49 (by decide) (fun c6 => ?_) (fun c6 => ?_)
          · have hq := hq.1 c6
            refine lv_iinc (v := (x3 + (1 : Int32))) (lv' := [(3, .int (x3 + (1 : Int32))), (0, .ref (ad 0)), (1, .int x1), (2, .int x2)]) hx hb1 dX8_misread_64 hl (k := 3) rfl rfl (by decide) rfl (fun ls hl => ?_)
            refine lv_goto (tgt := 18) hx hb1 dX8_misread_67 (by decide) ?_
            exact ih x2 (x3 + (1 : Int32)) σ5 _ _ ls hq h (lv_sub hl [1, 2, 3, 0] rfl)
          · have hq := hq.2 c6
            refine lv_iload_n hx hb1 dX8_misread_52 rfl (lv_at hl 2 rfl) ?_
            refine lv_aload_n hx hb1 dX8_misread_53 rfl (lv_at hl 0 rfl) ?_
            refine hh_getr X h fc_0_2 in_X8_misread_X8 kc_0 (by decide) (List.mem_of_getElem? (i := 1) rfl) rfl dX8_misread_54 ?_
            refine hh_getr X h fc_4_6 in_X8_misread_X1 kc_4 (by decide) (List.mem_of_getElem? (i := 4) rfl) rfl dX8_misread_57 ?_
            refine lv_iload_n hx hb1 dX8_misread_60 rfl (lv_at hl 3 rfl) ?_
            obtain ⟨h7, hq⟩ := hq
            refine hh_ild X h ac_25 h7 dX8_misread_61 ?_
            refine lv_ior hx hb1 dX8_misread_62 ?_
            refine lv_topi (fun v8 ev8 => ?_)
            have hq := hq v8 ev8
            refine lv_istore_n (lv' := [(2, .int v8), (0, .ref (ad 0)), (1, .int x1), (3, .int x3)]) hx hb1 dX8_misread_63 rfl hl (by decide) rfl (fun ls hl => ?_)
            refine lv_iinc (v := (x3 + (1 : Int32))) (lv' := [(3, .int (x3 + (1 : Int32))), (2, .int v8), (0, .ref (ad 0)), (1, .int x1)]) hx hb1 dX8_misread_64 hl (k := 3) rfl rfl (by decide) rfl (fun ls hl => ?_)
            refine lv_goto (tgt := 18) hx hb1 dX8_misread_67 (by decide) ?_
            exact ih v8 (x3 + (1 : Int32)) σ5 _ _ ls hq h (lv_sub hl [2, 3, 1, 0] rfl)
  subst hargs
  refine hh_entry (vs := [.ref (ad 0), .int x1]) (Nat.le_of_ble_eq_true rfl) (fun ls hl => ?_)
  have hl : lv_has ls 4 [(0, .ref (ad 0)), (1, .int x1)] := hl
  have hq : wp_X8_misread x1 σ Q := hq
  unfold wp_X8_misread at hq
  refine lv_iload_n hx hb1 dX8_misread_0 rfl (lv_at hl 1 rfl) ?_
  refine lv_iconst (v := (1 : Int32)) hx hb1 dX8_misread_1 (by decide) ?_
  refine lv_icmp_lt (tgt := 11) hx hb1 dX8_misread_2 (by decide) (fun c9 => ?_) (fun c9 => ?_)
  · have hq := hq.1 c9
    refine lv_bipush (v := (-2 : Int32)) hx hb1 dX8_misread_11 (by decide) ?_
    exact hh_iret X h hr hlocks hq dX8_misread_13
  · have hq := hq.2 c9
    refine lv_iload_n hx hb1 dX8_misread_5 rfl (lv_at hl 1 rfl) ?_
    refine lv_bipush (v := (10 : Int32)) hx hb1 dX8_misread_6 (by decide) ?_
    refine lv_icmp_le (tgt := 14) hx hb1 dX8_misread_8 (by decide) (fun c10 => ?_) (fun c10 => ?_)
    · have hq := hq.1 c10
      refine lv_iconst (v := (0 : Int32)) hx hb1 dX8_misread_14 (by decide) ?_
      refine lv_istore_n (lv' := [(2, .int (0 : Int32)), (0, .ref (ad 0)), (1, .int x1)]) hx hb1 dX8_misread_15 rfl hl (by decide) rfl (fun ls hl => ?_)
      refine lv_iconst (v := (0 : Int32)) hx hb1 dX8_misread_16 (by decide) ?_
      refine lv_istore_n (lv' := [(3, .int (0 : Int32)), (2, .int (0 : Int32)), (0, .ref (ad 0)), (1, .int x1)]) hx hb1 dX8_misread_17 rfl hl (by decide) rfl (fun ls hl => ?_)
      obtain ⟨n11, hq⟩ := hq
      exact lt_18 x1 n11 (0 : Int32) (0 : Int32) σ _ _ ls hq h (lv_sub hl [2, 3, 1, 0] rfl)
    · have hq := hq.2 c10
      refine lv_bipush (v := (-2 : Int32)) hx hb1 dX8_misread_11 (by decide) ?_
      exact hh_iret X h hr hlocks hq dX8_misread_13
theorem nd_X8_deal : yX8_deal.cls = RX8 ∧ yX8_deal.cls ≠ "java/lang/invoke/MethodHandle" ∧ yX8_deal.cls ≠ "java/lang/invoke/VarHandle" ∧ (parseMethodDescriptor yX8_deal.desc).map (fun d => d.parameters.length) = some 1 := by decide +kernel
abbrev rm_X8_deal : Room := { frames := 0, cells := 0, slots := 0, locals := 0 }
def wq_X8_deal_23 (Q : Int32 → hh_S → Prop) (K23 : Int64 → Int32 → Int32 → hh_S → Prop) (x2 : Int64) (x4 : Int32) (x5 : Int32) (σ : hh_S) : Prop := (((hh_I σ 320) ≤ x5 → (Q x4 σ)) ∧ (¬ (hh_I σ 320) ≤ x5 → (∀ v2 : Int64, v2 = ((x2 * (16807 : Int64)) - (x2 * (16807 : Int64)) / (2147483647 : Int64) * (2147483647 : Int64)) → (vp_in x5 10 ∧ ∀ σ4 : hh_S, σ4 = hh_sA σ 27 x5 ((v2 - v2 / (2 : Int64) * (2 : Int64)).toInt32) → (vp_in x5 10 ∧ (∀ v6 : Int32, v6 = (x4 + (hh_rA σ4 27 x5)) → (K23 v2 v6 (x5 + (1 : Int32)) σ4)))))))
def wp_X8_deal (x1 : Int32) (σ : hh_S) (Q : Int32 → hh_S → Prop) : Prop := ((x1 < (1 : Int32) → (Q (-2 : Int32) σ)) ∧ (¬ x1 < (1 : Int32) → ((x1 ≤ (1000000 : Int32) → (∀ v9 : Int64, v9 = (x1.toInt64) → (∃ n : Nat, hh_lp3 (wq_X8_deal_23 Q) n v9 (0 : Int32) (0 : Int32) σ))) ∧ (¬ x1 ≤ (1000000 : Int32) → (Q (-2 : Int32) σ)))))
theorem in_X8_deal_X8 : ∀ w ∈ u_ws RX8 TX8 13, w ∈ wsX8_deal := fun w h => List.mem_cons_of_mem _ (List.mem_append_left _ (List.mem_append_right _ h))
theorem in_X8_deal_X0 : ∀ w ∈ u_ws RX0 TX0 4, w ∈ wsX8_deal := fun w h => List.mem_cons_of_mem _ (List.mem_append_right _ h)
set_option maxHeartbeats 4000000 in
set_option maxRecDepth 100000 in
theorem ad_X8_deal {D : va_G} (l : Launch) {cy : Nat → ClassId} {ad : Nat → Nat} (J : hh_J hc_Y ad) (x1 : Int32) (σ : hh_S) (Q : Int32 → hh_S → Prop) (hq : wp_X8_deal x1 σ Q) : Met l yX8_deal wsX8_deal rm_X8_deal (va_Pc [.ref (ad 0), .int x1] (hh_B D hh_cl hc_Y cy ad σ)) (va_Qi Q (hh_B D hh_cl hc_Y cy ad) (hh_A hc_Y ad)) 0 0 (hh_A hc_Y ad) := by
  refine Met.ofW (cc := cX8_deal) (maxL := 6) (ret := (some .int)) (by decide) rfl ?_
  intro p e s m args below meth c s₁ B hml hv
  obtain ⟨hargs, hP0, hK0⟩ := hv
  have hr := B.returns
  have hlocks := B.notSynchronized
  have X : hh_X p m c cX8_deal 6 s args wsX8_deal RX8 D hh_cl hc_Y cy ad := ⟨⟨B.exec, B.bytes, hml, findClass_of_methodNamed B.named, atoms_spec (ws := wsX8_deal) B.pre⟩, hK0, J⟩
  have hx := X.1.1
  have hb1 := X.1.2.1
  have h : hh_H D hh_cl hc_Y cy ad s.heap σ s.heap [] := ⟨hP0, va_S.rf⟩
  have lt_23 : ∀ (n : Nat) (x2 : Int64) (x4 : Int32) (x5 : Int32) (σ : hh_S) (H : Heap) (locs : List Loc) (ls : Array Slot), hh_lp3 (wq_X8_deal_23 Q) n x2 x4 x5 σ → hh_H D hh_cl hc_Y cy ad s.heap σ H locs → lv_has ls 6 [(0, .ref (ad 0)), (2, .long x2), (4, .int x4), (5, .int x5)] → W p l e (headSpec wsX8_deal rm_X8_deal).room s m args below meth c H locs 0 0 (MQ below (va_Qi Q (hh_B D hh_cl hc_Y cy ad) (hh_A hc_Y ad)) args s 0 0 (hh_A hc_Y ad)) (F0 m 23 ls []) := by
    intro n
    induction n with
    | zero => intro x2 x4 x5 σ H locs ls hq h hl; exact hq.elim
    | succ n ih =>
      intro x2 x4 x5 σ H locs ls hq h hl
      have hq : wq_X8_deal_23 Q (hh_lp3 (wq_X8_deal_23 Q) n) x2 x4 x5 σ := hq
      unfold wq_X8_deal_23 at hq
      refine lv_iload hx hb1 dX8_deal_23 (lv_at hl 3 rfl) ?_
      refine lv_aload_n hx hb1 dX8_deal_25 rfl (lv_at hl 0 rfl) ?_
      refine hh_getr X h fc_0_3 in_X8_deal_X8 kc_0 (by decide) (List.mem_of_getElem? (i := 2) rfl) rfl dX8_deal_26 ?_
      refine hh_geti X h (q := 320) fc_5_0 rfl in_X8_deal_X0 kc_5 (by decide) (List.mem_of_getElem? (i := 3) rfl) rfl dX8_deal_29 ?_
      refine lv_icmp_ge (tgt := 82) hx hb1 dX8_deal_32 (by decide) (fun c1 => ?_) (fun c1 => ?_)
      · have hq := hq.1 c1
        refine lv_iload hx hb1 dX8_deal_82 (lv_at hl 2 rfl) ?_
        exact hh_iret X h hr hlocks hq dX8_deal_84
      · have hq := hq.2 c1
        refine lv_lload_n hx hb1 dX8_deal_35 rfl (lv_at hl 1 rfl) ?_
        refine lv_ldc2 (v := (16807 : Int64)) hx hb1 X.1.2.2.2.1 (X.1.2.2.2.2 _ (List.mem_of_getElem? (i := 4) rfl)) dX8_deal_36 ?_
        refine lv_lmul hx hb1 dX8_deal_39 ?_
        refine lv_ldc2 (v := (2147483647 : Int64)) hx hb1 X.1.2.2.2.1 (X.1.2.2.2.2 _ (List.mem_of_getElem? (i := 5) rfl)) dX8_deal_40 ?_
        refine lv_lrem hx hb1 dX8_deal_43 (by decide) ?_
        refine lv_topl (fun v2 ev2 => ?_)
        have hq := hq v2 ev2
        refine lv_lstore_n (lv' := [(2, .long v2), (0, .ref (ad 0)), (4, .int x4), (5, .int x5)]) hx hb1 dX8_deal_44 rfl hl (by decide) rfl (fun ls hl => ?_)
        refine lv_aload_n hx hb1 dX8_deal_45 rfl (lv_at hl 1 rfl) ?_
        refine hh_getr X h fc_0_3 in_X8_deal_X8 kc_0 (by decide) (List.mem_of_getElem? (i := 2) rfl) rfl dX8_deal_46 ?_
        refine hh_getr X h fc_5_2 in_X8_deal_X0 kc_5 (by decide) (List.mem_of_getElem? (i := 6) rfl) rfl dX8_deal_49 ?_
        refine lv_iload hx hb1 dX8_deal_52 (lv_at hl 3 rfl) ?_
        refine lv_lload_n hx hb1 dX8_deal_54 rfl (lv_at hl 0 rfl) ?_
        refine lv_ldc2 (v := (2 : Int64)) hx hb1 X.1.2.2.2.1 (X.1.2.2.2.2 _ (List.mem_of_getElem? (i := 7) rfl)) dX8_deal_55 ?_
        refine lv_lrem hx hb1 dX8_deal_58 (by decide) ?_
        refine lv_l2i (v := ((v2 - v2 / (2 : Int64) * (2 : Int64))).toInt32) hx hb1 dX8_deal_59 rfl ?_
        obtain ⟨h3, hq⟩ := hq
        refine hh_ist X h ac_27 h3 dX8_deal_60 (fun σ4 H locs eσ4 h => ?_)
        have hq := hq σ4 eσ4
        refine lv_iload hx hb1 dX8_deal_61 (lv_at hl 2 rfl) ?_
        refine lv_aload_n hx hb1 dX8_deal_63 rfl (lv_at hl 1 rfl) ?_
        refine hh_getr X h fc_0_3 in_X8_deal_X8 kc_0 (by decide) (List.mem_of_getElem? (i := 2) rfl) rfl dX8_deal_64 ?_
        refine hh_getr X h fc_5_2 in_X8_deal_X0 kc_5 (by decide) (List.mem_of_getElem? (i := 6) rfl) rfl dX8_deal_67 ?_
        refine lv_iload hx hb1 dX8_deal_70 (lv_at hl 3 rfl) ?_
        obtain ⟨h5, hq⟩ := hq
        refine hh_ild X h ac_27 h5 dX8_deal_72 ?_
        refine lv_iadd hx hb1 dX8_deal_73 ?_
        refine lv_topi (fun v6 ev6 => ?_)
        have hq := hq v6 ev6
        refine lv_istore (lv' := [(4, .int v6), (2, .long v2), (0, .ref (ad 0)), (5, .int x5)]) hx hb1 dX8_deal_74 hl (by decide) rfl (fun ls hl => ?_)
        refine lv_iinc (v := (x5 + (1 : Int32))) (lv' := [(5, .int (x5 + (1 : Int32))), (4, .int v6), (2, .long v2), (0, .ref (ad 0))]) hx hb1 dX8_deal_76 hl (k := 3) rfl rfl (by decide) rfl (fun ls hl => ?_)
        refine lv_goto (tgt := 23) hx hb1 dX8_deal_79 (by decide) ?_
        exact ih v2 v6 (x5 + (1 : Int32)) σ4 _ _ ls hq h (lv_sub hl [3, 2, 1, 0] rfl)
  subst hargs
  refine hh_entry (vs := [.ref (ad 0), .int x1]) (Nat.le_of_ble_eq_true rfl) (fun ls hl => ?_)
  have hl : lv_has ls 6 [(0, .ref (ad 0)), (1, .int x1)] := hl
  have hq : wp_X8_deal x1 σ Q := hq
  unfold wp_X8_deal at hq
  refine lv_iload_n hx hb1 dX8_deal_0 rfl (lv_at hl 1 rfl) ?_
  refine lv_iconst (v := (1 : Int32)) hx hb1 dX8_deal_1 (by decide) ?_
  refine lv_icmp_lt (tgt := 11) hx hb1 dX8_deal_2 (by decide) (fun c7 => ?_) (fun c7 => ?_)
  · have hq := hq.1 c7
    refine lv_bipush (v := (-2 : Int32)) hx hb1 dX8_deal_11 (by decide) ?_
    exact hh_iret X h hr hlocks hq dX8_deal_13
  · have hq := hq.2 c7
    refine lv_iload_n hx hb1 dX8_deal_5 rfl (lv_at hl 1 rfl) ?_
    refine lv_ldc (v := (1000000 : Int32)) hx hb1 X.1.2.2.2.1 (X.1.2.2.2.2 _ (List.mem_of_getElem? (i := 1) rfl)) dX8_deal_6 ?_
    refine lv_icmp_le (tgt := 14) hx hb1 dX8_deal_8 (by decide) (fun c8 => ?_) (fun c8 => ?_)
    · have hq := hq.1 c8
      refine lv_iload_n hx hb1 dX8_deal_14 rfl (lv_at hl 1 rfl) ?_
      refine lv_i2l (v := (x1).toInt64) hx hb1 dX8_deal_15 rfl ?_
      refine lv_topl (fun v9 ev9 => ?_)
      have hq := hq v9 ev9
      refine lv_lstore_n (lv' := [(2, .long v9), (0, .ref (ad 0)), (1, .int x1)]) hx hb1 dX8_deal_16 rfl hl (by decide) rfl (fun ls hl => ?_)
      refine lv_iconst (v := (0 : Int32)) hx hb1 dX8_deal_17 (by decide) ?_
      refine lv_istore (lv' := [(4, .int (0 : Int32)), (2, .long v9), (0, .ref (ad 0)), (1, .int x1)]) hx hb1 dX8_deal_18 hl (by decide) rfl (fun ls hl => ?_)
      refine lv_iconst (v := (0 : Int32)) hx hb1 dX8_deal_20 (by decide) ?_
      refine lv_istore (lv' := [(5, .int (0 : Int32)), (4, .int (0 : Int32)), (2, .long v9), (0, .ref (ad 0)), (1, .int x1)]) hx hb1 dX8_deal_21 hl (by decide) rfl (fun ls hl => ?_)
      obtain ⟨n10, hq⟩ := hq
      exact lt_23 n10 v9 (0 : Int32) (0 : Int32) σ _ _ ls hq h (lv_sub hl [3, 2, 1, 0] rfl)
    · have hq := hq.2 c8
      refine lv_bipush (v := (-2 : Int32)) hx hb1 dX8_deal_11 (by decide) ?_
      exact hh_iret X h hr hlocks hq dX8_deal_13
theorem nd_X8_better : yX8_better.cls = RX8 ∧ yX8_better.cls ≠ "java/lang/invoke/MethodHandle" ∧ yX8_better.cls ≠ "java/lang/invoke/VarHandle" ∧ (parseMethodDescriptor yX8_better.desc).map (fun d => d.parameters.length) = some 1 := by decide +kernel
abbrev rm_X8_better : Room := { frames := 3, cells := 0, slots := 0, locals := 66 }
def wq_X8_better_41 (K26 : Int32 → Int32 → Int32 → Int32 → Int32 → hh_S → Prop) (x1 : Int32) (x6 : Int32) (Q : Int64 → hh_S → Prop) (K41 : Int32 → Int32 → Int32 → Int32 → Int32 → hh_S → Prop) (x2 : Int32) (x3 : Int32) (x4 : Int32) (x5 : Int32) (x7 : Int32) (σ : hh_S) : Prop := (((hh_I σ 256) ≤ x7 → (K26 x2 x3 x4 x5 (x6 + (1 : Int32)) σ)) ∧ (¬ (hh_I σ 256) ≤ x7 → (((40 : Int32) ≤ x2 → (K26 x2 x3 x4 x5 (x6 + (1 : Int32)) σ)) ∧ (¬ (40 : Int32) ≤ x2 → (wp_X8_isToKnown x6 x7 σ (fun (r3 : Int32) (σ4 : hh_S) => ((r3 = 0 → (K41 x2 x3 x4 x5 (x7 + (1 : Int32)) σ4)) ∧ (¬ r3 = 0 → (wp_X8_isRight x6 x7 σ4 (fun (r6 : Int32) (σ7 : hh_S) => ((r6 = 0 → (∀ v9 : Int32, v9 = (x3 + (0 : Int32)) → (vp_in x6 10 ∧ (∀ v11 : Int32, v11 = (x4 + (hh_rA σ7 27 x6)) → (vp_in x6 10 ∧ (∀ v13 : Int32, v13 = (x5 + ((0 : Int32) * (hh_rA σ7 27 x6))) → (K41 (x2 + (1 : Int32)) v9 v11 v13 (x7 + (1 : Int32)) σ7))))))) ∧ (¬ r6 = 0 → (∀ v14 : Int32, v14 = (x3 + (1 : Int32)) → (vp_in x6 10 ∧ (∀ v16 : Int32, v16 = (x4 + (hh_rA σ7 27 x6)) → (vp_in x6 10 ∧ (∀ v18 : Int32, v18 = (x5 + ((1 : Int32) * (hh_rA σ7 27 x6))) → (K41 (x2 + (1 : Int32)) v14 v16 v18 (x7 + (1 : Int32)) σ7))))))))))))))))))
def wq_X8_better_26 (x1 : Int32) (Q : Int64 → hh_S → Prop) (K26 : Int32 → Int32 → Int32 → Int32 → Int32 → hh_S → Prop) (x2 : Int32) (x3 : Int32) (x4 : Int32) (x5 : Int32) (x6 : Int32) (σ : hh_S) : Prop := (((hh_I σ 320) ≤ x6 → (wp_X3_dealtAtLeast x2 x3 x4 x5 σ (fun (σ21 : hh_S) => (wp_X3_part x1 σ21 (fun (r22 : Int64) (σ23 : hh_S) => (Q r22 σ23)))))) ∧ (¬ (hh_I σ 320) ≤ x6 → (∃ n : Nat, hh_lp5 (wq_X8_better_41 K26 x1 x6 Q) n x2 x3 x4 x5 (0 : Int32) σ)))
def wp_X8_better (x1 : Int32) (σ : hh_S) (Q : Int64 → hh_S → Prop) : Prop := ((x1 < 0 → (Q (-1000000000000000002 : Int64) σ)) ∧ (¬ x1 < 0 → ((x1 ≤ (1 : Int32) → (∃ n : Nat, hh_lp5 (wq_X8_better_26 x1 Q) n (0 : Int32) (0 : Int32) (0 : Int32) (0 : Int32) (0 : Int32) σ)) ∧ (¬ x1 ≤ (1 : Int32) → (Q (-1000000000000000002 : Int64) σ)))))
theorem in_X8_better_X8 : ∀ w ∈ u_ws RX8 TX8 13, w ∈ wsX8_better := fun w h => List.mem_cons_of_mem _ (List.mem_append_left _ (List.mem_append_left _ (List.mem_append_left _ (List.mem_append_right _ h))))
theorem in_X8_better_X0 : ∀ w ∈ u_ws RX0 TX0 4, w ∈ wsX8_better := fun w h => List.mem_cons_of_mem _ (List.mem_append_left _ (List.mem_append_left _ (List.mem_append_right _ h)))
theorem in_X8_better_X1 : ∀ w ∈ u_ws RX1 TX1 7, w ∈ wsX8_better := fun w h => List.mem_cons_of_mem _ (List.mem_append_left _ (List.mem_append_right _ h))
theorem in_X8_better_X3 : ∀ w ∈ u_ws RX3 TX3 4, w ∈ wsX8_better := fun w h => List.mem_cons_of_mem _ (List.mem_append_right _ h)
set_option maxHeartbeats 4000000 in
set_option maxRecDepth 100000 in
theorem ad_X8_better {D : va_G} (l : Launch) {cy : Nat → ClassId} {ad : Nat → Nat} (J : hh_J hc_Y ad) (x1 : Int32) (σ : hh_S) (Q : Int64 → hh_S → Prop) (hq : wp_X8_better x1 σ Q) : Met l yX8_better wsX8_better rm_X8_better (va_Pc [.ref (ad 0), .int x1] (hh_B D hh_cl hc_Y cy ad σ)) (va_Ql Q (hh_B D hh_cl hc_Y cy ad) (hh_A hc_Y ad)) 0 0 (hh_A hc_Y ad) := by
  refine Met.ofW (cc := cX8_better) (maxL := 9) (ret := (some .long)) (by decide) rfl ?_
  intro p e s m args below meth c s₁ B hml hv
  obtain ⟨hargs, hP0, hK0⟩ := hv
  have hr := B.returns
  have hlocks := B.notSynchronized
  have X : hh_X p m c cX8_better 9 s args wsX8_better RX8 D hh_cl hc_Y cy ad := ⟨⟨B.exec, B.bytes, hml, findClass_of_methodNamed B.named, atoms_spec (ws := wsX8_better) B.pre⟩, hK0, J⟩
  have hx := X.1.1
  have hb1 := X.1.2.1
  have h : hh_H D hh_cl hc_Y cy ad s.heap σ s.heap [] := ⟨hP0, va_S.rf⟩
  have lt_41 : ∀ (x1 : Int32) (x6 : Int32) (K26 : Int32 → Int32 → Int32 → Int32 → Int32 → hh_S → Prop) (hK26 : ∀ (x2 : Int32) (x3 : Int32) (x4 : Int32) (x5 : Int32) (x6 : Int32) (σ : hh_S) (H : Heap) (locs : List Loc) (ls : Array Slot), K26 x2 x3 x4 x5 x6 σ → hh_H D hh_cl hc_Y cy ad s.heap σ H locs → lv_has ls 9 [(0, .ref (ad 0)), (1, .int x1), (2, .int x2), (3, .int x3), (4, .int x4), (5, .int x5), (6, .int x6)] → W p l e (headSpec wsX8_better rm_X8_better).room s m args below meth c H locs 0 0 (MQ below (va_Ql Q (hh_B D hh_cl hc_Y cy ad) (hh_A hc_Y ad)) args s 0 0 (hh_A hc_Y ad)) (F0 m 26 ls [])) (n : Nat) (x2 : Int32) (x3 : Int32) (x4 : Int32) (x5 : Int32) (x7 : Int32) (σ : hh_S) (H : Heap) (locs : List Loc) (ls : Array Slot), hh_lp5 (wq_X8_better_41 K26 x1 x6 Q) n x2 x3 x4 x5 x7 σ → hh_H D hh_cl hc_Y cy ad s.heap σ H locs → lv_has ls 9 [(0, .ref (ad 0)), (1, .int x1), (2, .int x2), (3, .int x3), (4, .int x4), (5, .int x5), (6, .int x6), (7, .int x7)] → W p l e (headSpec wsX8_better rm_X8_better).room s m args below meth c H locs 0 0 (MQ below (va_Ql Q (hh_B D hh_cl hc_Y cy ad) (hh_A hc_Y ad)) args s 0 0 (hh_A hc_Y ad)) (F0 m 41 ls []) := by
    intro x1 x6 K26 hK26 n
    induction n with
    | zero => intro x2 x3 x4 x5 x7 σ H locs ls hq h hl; exact hq.elim
    | succ n ih =>
      intro x2 x3 x4 x5 x7 σ H locs ls hq h hl
      have hq : wq_X8_better_41 K26 x1 x6 Q (hh_lp5 (wq_X8_better_41 K26 x1 x6 Q) n) x2 x3 x4 x5 x7 σ := hq
      unfold wq_X8_better_41 at hq
      refine lv_iload hx hb1 dX8_better_41 (lv_at hl 7 rfl) ?_
      refine lv_aload_n hx hb1 dX8_better_43 rfl (lv_at hl 0 rfl) ?_
      refine hh_getr X h fc_0_2 in_X8_better_X8 kc_0 (by decide) (List.mem_of_getElem? (i := 4) rfl) rfl dX8_better_44 ?_
      refine hh_geti X h (q := 256) fc_4_0 rfl in_X8_better_X1 kc_4 (by decide) (List.mem_of_getElem? (i := 5) rfl) rfl dX8_better_47 ?_
      refine lv_icmp_ge (tgt := 135) hx hb1 dX8_better_50 (by decide) (fun c1 => ?_) (fun c1 => ?_)
      · have hq := hq.1 c1
        refine lv_iinc (v := (x6 + (1 : Int32))) (lv' := [(6, .int (x6 + (1 : Int32))), (0, .ref (ad 0)), (1, .int x1), (2, .int x2), (3, .int x3), (4, .int x4), (5, .int x5), (7, .int x7)]) hx hb1 dX8_better_135 hl (k := 6) rfl rfl (by decide) rfl (fun ls hl => ?_)
        refine lv_goto (tgt := 26) hx hb1 dX8_better_138 (by decide) ?_
        exact hK26 x2 x3 x4 x5 (x6 + (1 : Int32)) σ _ _ ls hq h (lv_sub hl [1, 2, 3, 4, 5, 6, 0] rfl)
      · have hq := hq.2 c1
        refine lv_iload_n hx hb1 dX8_better_53 rfl (lv_at hl 2 rfl) ?_
        refine lv_bipush (v := (40 : Int32)) hx hb1 dX8_better_54 (by decide) ?_
        refine lv_icmp_ge (tgt := 135) hx hb1 dX8_better_56 (by decide) (fun c2 => ?_) (fun c2 => ?_)
        · have hq := hq.1 c2
          refine lv_iinc (v := (x6 + (1 : Int32))) (lv' := [(6, .int (x6 + (1 : Int32))), (0, .ref (ad 0)), (1, .int x1), (2, .int x2), (3, .int x3), (4, .int x4), (5, .int x5), (7, .int x7)]) hx hb1 dX8_better_135 hl (k := 6) rfl rfl (by decide) rfl (fun ls hl => ?_)
          refine lv_goto (tgt := 26) hx hb1 dX8_better_138 (by decide) ?_
          exact hK26 x2 x3 x4 x5 (x6 + (1 : Int32)) σ _ _ ls hq h (lv_sub hl [1, 2, 3, 4, 5, 6, 0] rfl)
        · have hq := hq.2 c2
          refine lv_aload_n hx hb1 dX8_better_59 rfl (lv_at hl 0 rfl) ?_
          refine lv_iload hx hb1 dX8_better_60 (lv_at hl 6 rfl) ?_
          refine lv_iload hx hb1 dX8_better_62 (lv_at hl 7 rfl) ?_
          refine hh_kI h (va_runV (As := [.int x6, .int x7]) (rest := []) X.1 (ad_X8_isToKnown (D := D) l J x6 x7 σ _ hq) (cwV 2 X.1.2.2.2.2 gX8_better_X8_isToKnown rfl rfl rfl nd_X8_isToKnown ⟨Nat.le_of_ble_eq_true rfl, Nat.le_of_ble_eq_true rfl⟩) (hh_preV X h fc_0_0 kc_0 [.int x6, .int x7]) rfl rfl hl.1 rfl (lv_room (Nat.le_of_ble_eq_true rfl)) dX8_better_64 ⟨Nat.le_of_ble_eq_true rfl, Nat.le_of_ble_eq_true rfl⟩) (fun r3 σ4 H locs hq h => ?_)
          refine lv_if_eq (tgt := 129) hx hb1 dX8_better_67 (by decide) (fun c5 => ?_) (fun c5 => ?_)
          · have hq := hq.1 c5
            refine lv_iinc (v := (x7 + (1 : Int32))) (lv' := [(7, .int (x7 + (1 : Int32))), (0, .ref (ad 0)), (1, .int x1), (2, .int x2), (3, .int x3), (4, .int x4), (5, .int x5), (6, .int x6)]) hx hb1 dX8_better_129 hl (k := 7) rfl rfl (by decide) rfl (fun ls hl => ?_)
            refine lv_goto (tgt := 41) hx hb1 dX8_better_132 (by decide) ?_
            exact ih x2 x3 x4 x5 (x7 + (1 : Int32)) σ4 _ _ ls hq h (lv_sub hl [1, 2, 3, 4, 5, 6, 7, 0] rfl)
          · have hq := hq.2 c5
            refine lv_aload_n hx hb1 dX8_better_70 rfl (lv_at hl 0 rfl) ?_
            refine lv_iload hx hb1 dX8_better_71 (lv_at hl 6 rfl) ?_
            refine lv_iload hx hb1 dX8_better_73 (lv_at hl 7 rfl) ?_
            refine hh_kI h (va_runV (As := [.int x6, .int x7]) (rest := []) X.1 (ad_X8_isRight (D := D) l J x6 x7 σ4 _ hq) (cwV 2 X.1.2.2.2.2 gX8_better_X8_isRight rfl rfl rfl nd_X8_isRight ⟨Nat.le_of_ble_eq_true rfl, Nat.le_of_ble_eq_true rfl⟩) (hh_preV X h fc_0_0 kc_0 [.int x6, .int x7]) rfl rfl hl.1 rfl (lv_room (Nat.le_of_ble_eq_true rfl)) dX8_better_75 ⟨Nat.le_of_ble_eq_true rfl, Nat.le_of_ble_eq_true rfl⟩) (fun r6 σ7 H locs hq h => ?_)
            refine lv_if_eq (tgt := 85) hx hb1 dX8_better_78 (by decide) (fun c8 => ?_) (fun c8 => ?_)
            · have hq := hq.1 c8
              refine lv_iconst (v := (0 : Int32)) hx hb1 dX8_better_85 (by decide) ?_
              refine lv_istore (lv' := [(8, .int (0 : Int32)), (0, .ref (ad 0)), (1, .int x1), (2, .int x2), (3, .int x3), (4, .int x4), (5, .int x5), (6, .int x6), (7, .int x7)]) hx hb1 dX8_better_86 hl (by decide) rfl (fun ls hl => ?_)
              refine lv_iinc (v := (x2 + (1 : Int32))) (lv' := [(2, .int (x2 + (1 : Int32))), (8, .int (0 : Int32)), (0, .ref (ad 0)), (1, .int x1), (3, .int x3), (4, .int x4), (5, .int x5), (6, .int x6), (7, .int x7)]) hx hb1 dX8_better_88 hl (k := 3) rfl rfl (by decide) rfl (fun ls hl => ?_)
              refine lv_iload_n hx hb1 dX8_better_91 rfl (lv_at hl 4 rfl) ?_
              refine lv_iload hx hb1 dX8_better_92 (lv_at hl 1 rfl) ?_
              refine lv_iadd hx hb1 dX8_better_94 ?_
              refine lv_topi (fun v9 ev9 => ?_)
              have hq := hq v9 ev9
              refine lv_istore_n (lv' := [(3, .int v9), (2, .int (x2 + (1 : Int32))), (8, .int (0 : Int32)), (0, .ref (ad 0)), (1, .int x1), (4, .int x4), (5, .int x5), (6, .int x6), (7, .int x7)]) hx hb1 dX8_better_95 rfl hl (by decide) rfl (fun ls hl => ?_)
              refine lv_iload hx hb1 dX8_better_96 (lv_at hl 5 rfl) ?_
              refine lv_aload_n hx hb1 dX8_better_98 rfl (lv_at hl 3 rfl) ?_
              refine hh_getr X h fc_0_3 in_X8_better_X8 kc_0 (by decide) (List.mem_of_getElem? (i := 2) rfl) rfl dX8_better_99 ?_
              refine hh_getr X h fc_5_2 in_X8_better_X0 kc_5 (by decide) (List.mem_of_getElem? (i := 6) rfl) rfl dX8_better_102 ?_
              refine lv_iload hx hb1 dX8_better_105 (lv_at hl 7 rfl) ?_
              obtain ⟨h10, hq⟩ := hq
              refine hh_ild X h ac_27 h10 dX8_better_107 ?_
              refine lv_iadd hx hb1 dX8_better_108 ?_
              refine lv_topi (fun v11 ev11 => ?_)
              have hq := hq v11 ev11
              refine lv_istore (lv' := [(4, .int v11), (3, .int v9), (2, .int (x2 + (1 : Int32))), (8, .int (0 : Int32)), (0, .ref (ad 0)), (1, .int x1), (5, .int x5), (6, .int x6), (7, .int x7)]) hx hb1 dX8_better_109 hl (by decide) rfl (fun ls hl => ?_)
              refine lv_iload hx hb1 dX8_better_111 (lv_at hl 6 rfl) ?_
              refine lv_iload hx hb1 dX8_better_113 (lv_at hl 3 rfl) ?_
              refine lv_aload_n hx hb1 dX8_better_115 rfl (lv_at hl 4 rfl) ?_
              refine hh_getr X h fc_0_3 in_X8_better_X8 kc_0 (by decide) (List.mem_of_getElem? (i := 2) rfl) rfl dX8_better_116 ?_
              refine hh_getr X h fc_5_2 in_X8_better_X0 kc_5 (by decide) (List.mem_of_getElem? (i := 6) rfl) rfl dX8_better_119 ?_
              refine lv_iload hx hb1 dX8_better_122 (lv_at hl 7 rfl) ?_
              obtain ⟨h12, hq⟩ := hq
              refine hh_ild X h ac_27 h12 dX8_better_124 ?_
              refine lv_imul hx hb1 dX8_better_125 ?_
              refine lv_iadd hx hb1 dX8_better_126 ?_
              refine lv_topi (fun v13 ev13 => ?_)
              have hq := hq v13 ev13
              refine lv_istore (lv' := [(5, .int v13), (4, .int v11), (3, .int v9), (2, .int (x2 + (1 : Int32))), (8, .int (0 : Int32)), (0, .ref (ad 0)), (1, .int x1), (6, .int x6), (7, .int x7)]) hx hb1 dX8_better_127 hl (by decide) rfl (fun ls hl => ?_)
              refine lv_iinc (v := (x7 + (1 : Int32))) (lv' := [(7, .int (x7 + (1 : Int32))), (5, .int v13), (4, .int v11), (3, .int v9), (2, .int (x2 + (1 : Int32))), (8, .int (0 : Int32)), (0, .ref (ad 0)), (1, .int x1), (6, .int x6)]) hx hb1 dX8_better_129 hl (k := 8) rfl rfl (by decide) rfl (fun ls hl => ?_)
              refine lv_goto (tgt := 41) hx hb1 dX8_better_132 (by decide) ?_
              exact ih (x2 + (1 : Int32)) v9 v11 v13 (x7 + (1 : Int32)) σ7 _ _ ls hq h (lv_sub hl [6, 7, 4, 3, 2, 1, 8, 0] rfl)
            · have hq := hq.2 c8
              refine lv_iconst (v := (1 : Int32)) hx hb1 dX8_better_81 (by decide) ?_
              refine lv_goto (tgt := 86) hx hb1 dX8_better_82 (by decide) ?_
              refine lv_istore (lv' := [(8, .int (1 : Int32)), (0, .ref (ad 0)), (1, .int x1), (2, .int x2), (3, .int x3), (4, .int x4), (5, .int x5), (6, .int x6), (7, .int x7)]) hx hb1 dX8_better_86 hl (by decide) rfl (fun ls hl => ?_)
              refine lv_iinc (v := (x2 + (1 : Int32))) (lv' := [(2, .int (x2 + (1 : Int32))), (8, .int (1 : Int32)), (0, .ref (ad 0)), (1, .int x1), (3, .int x3), (4, .int x4), (5, .int x5), (6, .int x6), (7, .int x7)]) hx hb1 dX8_better_88 hl (k := 3) rfl rfl (by decide) rfl (fun ls hl => ?_)
              refine lv_iload_n hx hb1 dX8_better_91 rfl (lv_at hl 4 rfl) ?_
              refine lv_iload hx hb1 dX8_better_92 (lv_at hl 1 rfl) ?_
              refine lv_iadd hx hb1 dX8_better_94 ?_
              refine lv_topi (fun v14 ev14 => ?_)
              have hq := hq v14 ev14
              refine lv_istore_n (lv' := [(3, .int v14), (2, .int (x2 + (1 : Int32))), (8, .int (1 : Int32)), (0, .ref (ad 0)), (1, .int x1), (4, .int x4), (5, .int x5), (6, .int x6), (7, .int x7)]) hx hb1 dX8_better_95 rfl hl (by decide) rfl (fun ls hl => ?_)
              refine lv_iload hx hb1 dX8_better_96 (lv_at hl 5 rfl) ?_
              refine lv_aload_n hx hb1 dX8_better_98 rfl (lv_at hl 3 rfl) ?_
              refine hh_getr X h fc_0_3 in_X8_better_X8 kc_0 (by decide) (List.mem_of_getElem? (i := 2) rfl) rfl dX8_better_99 ?_
              refine hh_getr X h fc_5_2 in_X8_better_X0 kc_5 (by decide) (List.mem_of_getElem? (i := 6) rfl) rfl dX8_better_102 ?_
              refine lv_iload hx hb1 dX8_better_105 (lv_at hl 7 rfl) ?_
              obtain ⟨h15, hq⟩ := hq
              refine hh_ild X h ac_27 h15 dX8_better_107 ?_
              refine lv_iadd hx hb1 dX8_better_108 ?_
              refine lv_topi (fun v16 ev16 => ?_)
              have hq := hq v16 ev16
              refine lv_istore (lv' := [(4, .int v16), (3, .int v14), (2, .int (x2 + (1 : Int32))), (8, .int (1 : Int32)), (0, .ref (ad 0)), (1, .int x1), (5, .int x5), (6, .int x6), (7, .int x7)]) hx hb1 dX8_better_109 hl (by decide) rfl (fun ls hl => ?_)
              refine lv_iload hx hb1 dX8_better_111 (lv_at hl 6 rfl) ?_
              refine lv_iload hx hb1 dX8_better_113 (lv_at hl 3 rfl) ?_
              refine lv_aload_n hx hb1 dX8_better_115 rfl (lv_at hl 4 rfl) ?_
              refine hh_getr X h fc_0_3 in_X8_better_X8 kc_0 (by decide) (List.mem_of_getElem? (i := 2) rfl) rfl dX8_better_116 ?_
              refine hh_getr X h fc_5_2 in_X8_better_X0 kc_5 (by decide) (List.mem_of_getElem? (i := 6) rfl) rfl dX8_better_119 ?_
              refine lv_iload hx hb1 dX8_better_122 (lv_at hl 7 rfl) ?_
              obtain ⟨h17, hq⟩ := hq
              refine hh_ild X h ac_27 h17 dX8_better_124 ?_
              refine lv_imul hx hb1 dX8_better_125 ?_
              refine lv_iadd hx hb1 dX8_better_126 ?_
              refine lv_topi (fun v18 ev18 => ?_)
              have hq := hq v18 ev18
              refine lv_istore (lv' := [(5, .int v18), (4, .int v16), (3, .int v14), (2, .int (x2 + (1 : Int32))), (8, .int (1 : Int32)), (0, .ref (ad 0)), (1, .int x1), (6, .int x6), (7, .int x7)]) hx hb1 dX8_better_127 hl (by decide) rfl (fun ls hl => ?_)
              refine lv_iinc (v := (x7 + (1 : Int32))) (lv' := [(7, .int (x7 + (1 : Int32))), (5, .int v18), (4, .int v16), (3, .int v14), (2, .int (x2 + (1 : Int32))), (8, .int (1 : Int32)), (0, .ref (ad 0)), (1, .int x1), (6, .int x6)]) hx hb1 dX8_better_129 hl (k := 8) rfl rfl (by decide) rfl (fun ls hl => ?_)
              refine lv_goto (tgt := 41) hx hb1 dX8_better_132 (by decide) ?_
              exact ih (x2 + (1 : Int32)) v14 v16 v18 (x7 + (1 : Int32)) σ7 _ _ ls hq h (lv_sub hl [6, 7, 4, 3, 2, 1, 8, 0] rfl)
  have lt_26 : ∀ (x1 : Int32) (n : Nat) (x2 : Int32) (x3 : Int32) (x4 : Int32) (x5 : Int32) (x6 : Int32) (σ : hh_S) (H : Heap) (locs : List Loc) (ls : Array Slot), hh_lp5 (wq_X8_better_26 x1 Q) n x2 x3 x4 x5 x6 σ → hh_H D hh_cl hc_Y cy ad s.heap σ H locs → lv_has ls 9 [(0, .ref (ad 0)), (1, .int x1), (2, .int x2), (3, .int x3), (4, .int x4), (5, .int x5), (6, .int x6)] → W p l e (headSpec wsX8_better rm_X8_better).room s m args below meth c H locs 0 0 (MQ below (va_Ql Q (hh_B D hh_cl hc_Y cy ad) (hh_A hc_Y ad)) args s 0 0 (hh_A hc_Y ad)) (F0 m 26 ls []) := by
    intro x1 n
    induction n with
    | zero => intro x2 x3 x4 x5 x6 σ H locs ls hq h hl; exact hq.elim
    | succ n ih =>
      intro x2 x3 x4 x5 x6 σ H locs ls hq h hl
      have hq : wq_X8_better_26 x1 Q (hh_lp5 (wq_X8_better_26 x1 Q) n) x2 x3 x4 x5 x6 σ := hq
      unfold wq_X8_better_26 at hq
      refine lv_iload hx hb1 dX8_better_26 (lv_at hl 6 rfl) ?_
      refine lv_aload_n hx hb1 dX8_better_28 rfl (lv_at hl 0 rfl) ?_
      refine hh_getr X h fc_0_3 in_X8_better_X8 kc_0 (by decide) (List.mem_of_getElem? (i := 2) rfl) rfl dX8_better_29 ?_
      refine hh_geti X h (q := 320) fc_5_0 rfl in_X8_better_X0 kc_5 (by decide) (List.mem_of_getElem? (i := 3) rfl) rfl dX8_better_32 ?_
      refine lv_icmp_ge (tgt := 141) hx hb1 dX8_better_35 (by decide) (fun c19 => ?_) (fun c19 => ?_)
      · have hq := hq.1 c19
        refine lv_aload_n hx hb1 dX8_better_141 rfl (lv_at hl 0 rfl) ?_
        refine hh_getr X h fc_0_7 in_X8_better_X8 kc_0 (by decide) (List.mem_of_getElem? (i := 7) rfl) rfl dX8_better_142 ?_
        refine lv_iload_n hx hb1 dX8_better_145 rfl (lv_at hl 2 rfl) ?_
        refine lv_iload_n hx hb1 dX8_better_146 rfl (lv_at hl 3 rfl) ?_
        refine lv_iload hx hb1 dX8_better_147 (lv_at hl 4 rfl) ?_
        refine lv_iload hx hb1 dX8_better_149 (lv_at hl 5 rfl) ?_
        refine hh_kV h (va_runV (As := [.int x2, .int x3, .int x4, .int x5]) (rest := []) X.1 (ad_X3_dealtAtLeast (D := D) l J x2 x3 x4 x5 σ _ hq) (cwV 4 X.1.2.2.2.2 gX8_better_X3_dealtAtLeast rfl rfl rfl nd_X3_dealtAtLeast ⟨Nat.le_of_ble_eq_true rfl, Nat.le_of_ble_eq_true rfl⟩) (hh_preV X h fc_9_0 kc_9 [.int x2, .int x3, .int x4, .int x5]) rfl rfl hl.1 rfl (lv_room (Nat.le_of_ble_eq_true rfl)) dX8_better_151 ⟨Nat.le_of_ble_eq_true rfl, Nat.le_of_ble_eq_true rfl⟩) (fun σ21 H locs hq h => ?_)
        refine lv_aload_n hx hb1 dX8_better_154 rfl (lv_at hl 0 rfl) ?_
        refine hh_getr X h fc_0_7 in_X8_better_X8 kc_0 (by decide) (List.mem_of_getElem? (i := 7) rfl) rfl dX8_better_155 ?_
        refine lv_iload_n hx hb1 dX8_better_158 rfl (lv_at hl 1 rfl) ?_
        refine hh_kL h (va_runV (As := [.int x1]) (rest := []) X.1 (ad_X3_part (D := D) l J x1 σ21 _ hq) (cwV 1 X.1.2.2.2.2 gX8_better_X3_part rfl rfl rfl nd_X3_part ⟨Nat.le_of_ble_eq_true rfl, Nat.le_of_ble_eq_true rfl⟩) (hh_preV X h fc_9_0 kc_9 [.int x1]) rfl rfl hl.1 rfl (lv_room (Nat.le_of_ble_eq_true rfl)) dX8_better_159 ⟨Nat.le_of_ble_eq_true rfl, Nat.le_of_ble_eq_true rfl⟩) (fun r22 σ23 H locs hq h => ?_)
        exact hh_lret X h hr hlocks hq dX8_better_162
      · have hq := hq.2 c19
        refine lv_iconst (v := (0 : Int32)) hx hb1 dX8_better_38 (by decide) ?_
        refine lv_istore (lv' := [(7, .int (0 : Int32)), (0, .ref (ad 0)), (1, .int x1), (2, .int x2), (3, .int x3), (4, .int x4), (5, .int x5), (6, .int x6)]) hx hb1 dX8_better_39 hl (by decide) rfl (fun ls hl => ?_)
        obtain ⟨n24, hq⟩ := hq
        exact lt_41 x1 x6 (hh_lp5 (wq_X8_better_26 x1 Q) n) ih n24 x2 x3 x4 x5 (0 : Int32) σ _ _ ls hq h (lv_sub hl [1, 2, 3, 4, 5, 6, 7, 0] rfl)
  subst hargs
  refine hh_entry (vs := [.ref (ad 0), .int x1]) (Nat.le_of_ble_eq_true rfl) (fun ls hl => ?_)
  have hl : lv_has ls 9 [(0, .ref (ad 0)), (1, .int x1)] := hl
  have hq : wp_X8_better x1 σ Q := hq
  unfold wp_X8_better at hq
  refine lv_iload_n hx hb1 dX8_better_0 rfl (lv_at hl 1 rfl) ?_
  refine lv_if_lt (tgt := 9) hx hb1 dX8_better_1 (by decide) (fun c25 => ?_) (fun c25 => ?_)
  · have hq := hq.1 c25
    refine lv_ldc2 (v := (-1000000000000000002 : Int64)) hx hb1 X.1.2.2.2.1 (X.1.2.2.2.2 _ (List.mem_of_getElem? (i := 1) rfl)) dX8_better_9 ?_
    exact hh_lret X h hr hlocks hq dX8_better_12
  · have hq := hq.2 c25
    refine lv_iload_n hx hb1 dX8_better_4 rfl (lv_at hl 1 rfl) ?_
    refine lv_iconst (v := (1 : Int32)) hx hb1 dX8_better_5 (by decide) ?_
    refine lv_icmp_le (tgt := 13) hx hb1 dX8_better_6 (by decide) (fun c26 => ?_) (fun c26 => ?_)
    · have hq := hq.1 c26
      refine lv_iconst (v := (0 : Int32)) hx hb1 dX8_better_13 (by decide) ?_
      refine lv_istore_n (lv' := [(2, .int (0 : Int32)), (0, .ref (ad 0)), (1, .int x1)]) hx hb1 dX8_better_14 rfl hl (by decide) rfl (fun ls hl => ?_)
      refine lv_iconst (v := (0 : Int32)) hx hb1 dX8_better_15 (by decide) ?_
      refine lv_istore_n (lv' := [(3, .int (0 : Int32)), (2, .int (0 : Int32)), (0, .ref (ad 0)), (1, .int x1)]) hx hb1 dX8_better_16 rfl hl (by decide) rfl (fun ls hl => ?_)
      refine lv_iconst (v := (0 : Int32)) hx hb1 dX8_better_17 (by decide) ?_
      refine lv_istore (lv' := [(4, .int (0 : Int32)), (3, .int (0 : Int32)), (2, .int (0 : Int32)), (0, .ref (ad 0)), (1, .int x1)]) hx hb1 dX8_better_18 hl (by decide) rfl (fun ls hl => ?_)
      refine lv_iconst (v := (0 : Int32)) hx hb1 dX8_better_20 (by decide) ?_
      refine lv_istore (lv' := [(5, .int (0 : Int32)), (4, .int (0 : Int32)), (3, .int (0 : Int32)), (2, .int (0 : Int32)), (0, .ref (ad 0)), (1, .int x1)]) hx hb1 dX8_better_21 hl (by decide) rfl (fun ls hl => ?_)
      refine lv_iconst (v := (0 : Int32)) hx hb1 dX8_better_23 (by decide) ?_
      refine lv_istore (lv' := [(6, .int (0 : Int32)), (5, .int (0 : Int32)), (4, .int (0 : Int32)), (3, .int (0 : Int32)), (2, .int (0 : Int32)), (0, .ref (ad 0)), (1, .int x1)]) hx hb1 dX8_better_24 hl (by decide) rfl (fun ls hl => ?_)
      obtain ⟨n27, hq⟩ := hq
      exact lt_26 x1 n27 (0 : Int32) (0 : Int32) (0 : Int32) (0 : Int32) (0 : Int32) σ _ _ ls hq h (lv_sub hl [5, 6, 4, 3, 2, 1, 0] rfl)
    · have hq := hq.2 c26
      refine lv_ldc2 (v := (-1000000000000000002 : Int64)) hx hb1 X.1.2.2.2.1 (X.1.2.2.2.2 _ (List.mem_of_getElem? (i := 1) rfl)) dX8_better_9 ?_
      exact hh_lret X h hr hlocks hq dX8_better_12
theorem nd_X8_lean : yX8_lean.cls = RX8 ∧ yX8_lean.cls ≠ "java/lang/invoke/MethodHandle" ∧ yX8_lean.cls ≠ "java/lang/invoke/VarHandle" ∧ (parseMethodDescriptor yX8_lean.desc).map (fun d => d.parameters.length) = some 1 := by decide +kernel
abbrev rm_X8_lean : Room := { frames := 5, cells := 0, slots := 0, locals := 116 }
def wp_X8_lean (x1 : Int32) (σ : hh_S) (Q : Int32 → hh_S → Prop) : Prop := (wp_X0_has x1 σ (fun (r1 : Int32) (σ2 : hh_S) => ((¬ r1 = 0 → (vp_in x1 10 ∧ (∀ v5 : Int32, v5 = (hh_rA σ2 26 x1) → (vp_in x1 10 ∧ ∀ σ7 : hh_S, σ7 = hh_sA σ2 26 x1 (vp_nar .boolean (1 : Int32)) → (wp_X2_run 1 σ7 (fun (r8 : Int32) (σ9 : hh_S) => (wp_X2_keepEnds 1 σ9 (fun (σ11 : hh_S) => (vp_in x1 10 ∧ ∀ σ13 : hh_S, σ13 = hh_sA σ11 26 x1 (vp_nar .boolean (0 : Int32)) → (wp_X2_run 1 σ13 (fun (r14 : Int32) (σ15 : hh_S) => (vp_in x1 10 ∧ ∀ σ17 : hh_S, σ17 = hh_sA σ15 26 x1 (vp_nar .boolean v5) → (wp_X2_endsUnlikeKept 1 σ17 (fun (r18 : Int32) (σ19 : hh_S) => (Q r18 σ19))))))))))))))) ∧ (r1 = 0 → (Q (-1 : Int32) σ2)))))
theorem in_X8_lean_X8 : ∀ w ∈ u_ws RX8 TX8 13, w ∈ wsX8_lean := fun w h => List.mem_cons_of_mem _ (List.mem_append_left _ (List.mem_append_left _ (List.mem_append_left _ (List.mem_append_left _ (List.mem_append_right _ h)))))
theorem in_X8_lean_X0 : ∀ w ∈ u_ws RX0 TX0 4, w ∈ wsX8_lean := fun w h => List.mem_cons_of_mem _ (List.mem_append_left _ (List.mem_append_left _ (List.mem_append_left _ (List.mem_append_right _ h))))
theorem in_X8_lean_X2 : ∀ w ∈ u_ws RX2 TX2 9, w ∈ wsX8_lean := fun w h => List.mem_cons_of_mem _ (List.mem_append_left _ (List.mem_append_left _ (List.mem_append_right _ h)))
theorem in_X8_lean_X5 : ∀ w ∈ u_ws RX5 TX5 1, w ∈ wsX8_lean := fun w h => List.mem_cons_of_mem _ (List.mem_append_left _ (List.mem_append_right _ h))
theorem in_X8_lean_X1 : ∀ w ∈ u_ws RX1 TX1 7, w ∈ wsX8_lean := fun w h => List.mem_cons_of_mem _ (List.mem_append_right _ h)
set_option maxHeartbeats 4000000 in
set_option maxRecDepth 100000 in
theorem ad_X8_lean {D : va_G} (l : Launch) {cy : Nat → ClassId} {ad : Nat → Nat} (J : hh_J hc_Y ad) (x1 : Int32) (σ : hh_S) (Q : Int32 → hh_S → Prop) (hq : wp_X8_lean x1 σ Q) : Met l yX8_lean wsX8_lean rm_X8_lean (va_Pc [.ref (ad 0), .int x1] (hh_B D hh_cl hc_Y cy ad σ)) (va_Qi Q (hh_B D hh_cl hc_Y cy ad) (hh_A hc_Y ad)) 0 0 (hh_A hc_Y ad) := by
  refine Met.ofW (cc := cX8_lean) (maxL := 3) (ret := (some .int)) (by decide) rfl ?_
  intro p e s m args below meth c s₁ B hml hv
  obtain ⟨hargs, hP0, hK0⟩ := hv
  have hr := B.returns
  have hlocks := B.notSynchronized
  have X : hh_X p m c cX8_lean 3 s args wsX8_lean RX8 D hh_cl hc_Y cy ad := ⟨⟨B.exec, B.bytes, hml, findClass_of_methodNamed B.named, atoms_spec (ws := wsX8_lean) B.pre⟩, hK0, J⟩
  have hx := X.1.1
  have hb1 := X.1.2.1
  have h : hh_H D hh_cl hc_Y cy ad s.heap σ s.heap [] := ⟨hP0, va_S.rf⟩
  subst hargs
  refine hh_entry (vs := [.ref (ad 0), .int x1]) (Nat.le_of_ble_eq_true rfl) (fun ls hl => ?_)
  have hl : lv_has ls 3 [(0, .ref (ad 0)), (1, .int x1)] := hl
  have hq : wp_X8_lean x1 σ Q := hq
  unfold wp_X8_lean at hq
  refine lv_aload_n hx hb1 dX8_lean_0 rfl (lv_at hl 0 rfl) ?_
  refine hh_getr X h fc_0_3 in_X8_lean_X8 kc_0 (by decide) (List.mem_of_getElem? (i := 1) rfl) rfl dX8_lean_1 ?_
  refine lv_iload_n hx hb1 dX8_lean_4 rfl (lv_at hl 1 rfl) ?_
  refine hh_kI h (va_runV (As := [.int x1]) (rest := []) X.1 (ad_X0_has (D := D) l J x1 σ _ hq) (cwV 1 X.1.2.2.2.2 gX8_lean_X0_has rfl rfl rfl nd_X0_has ⟨Nat.le_of_ble_eq_true rfl, Nat.le_of_ble_eq_true rfl⟩) (hh_preV X h fc_5_0 kc_5 [.int x1]) rfl rfl hl.1 rfl (lv_room (Nat.le_of_ble_eq_true rfl)) dX8_lean_5 ⟨Nat.le_of_ble_eq_true rfl, Nat.le_of_ble_eq_true rfl⟩) (fun r1 σ2 H locs hq h => ?_)
  refine lv_if_ne (tgt := 13) hx hb1 dX8_lean_8 (by decide) (fun c3 => ?_) (fun c3 => ?_)
  · have hq := hq.1 c3
    refine lv_aload_n hx hb1 dX8_lean_13 rfl (lv_at hl 0 rfl) ?_
    refine hh_getr X h fc_0_3 in_X8_lean_X8 kc_0 (by decide) (List.mem_of_getElem? (i := 1) rfl) rfl dX8_lean_14 ?_
    refine hh_getr X h fc_5_1 in_X8_lean_X0 kc_5 (by decide) (List.mem_of_getElem? (i := 2) rfl) rfl dX8_lean_17 ?_
    refine lv_iload_n hx hb1 dX8_lean_20 rfl (lv_at hl 1 rfl) ?_
    obtain ⟨h4, hq⟩ := hq
    refine hh_zld X h ac_26 h4 dX8_lean_21 ?_
    refine lv_topi (fun v5 ev5 => ?_)
    have hq := hq v5 ev5
    refine lv_istore_n (lv' := [(2, .int v5), (0, .ref (ad 0)), (1, .int x1)]) hx hb1 dX8_lean_22 rfl hl (by decide) rfl (fun ls hl => ?_)
    refine lv_aload_n hx hb1 dX8_lean_23 rfl (lv_at hl 1 rfl) ?_
    refine hh_getr X h fc_0_3 in_X8_lean_X8 kc_0 (by decide) (List.mem_of_getElem? (i := 1) rfl) rfl dX8_lean_24 ?_
    refine hh_getr X h fc_5_1 in_X8_lean_X0 kc_5 (by decide) (List.mem_of_getElem? (i := 2) rfl) rfl dX8_lean_27 ?_
    refine lv_iload_n hx hb1 dX8_lean_30 rfl (lv_at hl 2 rfl) ?_
    refine lv_iconst (v := (1 : Int32)) hx hb1 dX8_lean_31 (by decide) ?_
    obtain ⟨h6, hq⟩ := hq
    refine hh_zst X h ac_26 h6 dX8_lean_32 (fun σ7 H locs eσ7 h => ?_)
    have hq := hq σ7 eσ7
    refine lv_aload_n hx hb1 dX8_lean_33 rfl (lv_at hl 1 rfl) ?_
    refine hh_getr X h fc_0_6 in_X8_lean_X8 kc_0 (by decide) (List.mem_of_getElem? (i := 3) rfl) rfl dX8_lean_34 ?_
    refine hh_kI h (va_runV (As := []) (rest := []) X.1 (ad_X2_run (D := D) l J (b := 1) (Or.inr rfl) σ7 _ hq) (cwV 0 X.1.2.2.2.2 gX8_lean_X2_run rfl rfl rfl nd_X2_run ⟨Nat.le_of_ble_eq_true rfl, Nat.le_of_ble_eq_true rfl⟩) (hh_preV X h fc_8_0 kc_8 []) rfl rfl hl.1 rfl (lv_room (Nat.le_of_ble_eq_true rfl)) dX8_lean_37 ⟨Nat.le_of_ble_eq_true rfl, Nat.le_of_ble_eq_true rfl⟩) (fun r8 σ9 H locs hq h => ?_)
    refine lv_pop hx hb1 dX8_lean_40 rfl ?_
    refine lv_aload_n hx hb1 dX8_lean_41 rfl (lv_at hl 1 rfl) ?_
    refine hh_getr X h fc_0_6 in_X8_lean_X8 kc_0 (by decide) (List.mem_of_getElem? (i := 3) rfl) rfl dX8_lean_42 ?_
    refine hh_kV h (va_runV (As := []) (rest := []) X.1 (ad_X2_keepEnds (D := D) l J (b := 1) (Or.inr rfl) σ9 _ hq) (cwV 0 X.1.2.2.2.2 gX8_lean_X2_keepEnds rfl rfl rfl nd_X2_keepEnds ⟨Nat.le_of_ble_eq_true rfl, Nat.le_of_ble_eq_true rfl⟩) (hh_preV X h fc_8_0 kc_8 []) rfl rfl hl.1 rfl (lv_room (Nat.le_of_ble_eq_true rfl)) dX8_lean_45 ⟨Nat.le_of_ble_eq_true rfl, Nat.le_of_ble_eq_true rfl⟩) (fun σ11 H locs hq h => ?_)
    refine lv_aload_n hx hb1 dX8_lean_48 rfl (lv_at hl 1 rfl) ?_
    refine hh_getr X h fc_0_3 in_X8_lean_X8 kc_0 (by decide) (List.mem_of_getElem? (i := 1) rfl) rfl dX8_lean_49 ?_
    refine hh_getr X h fc_5_1 in_X8_lean_X0 kc_5 (by decide) (List.mem_of_getElem? (i := 2) rfl) rfl dX8_lean_52 ?_
    refine lv_iload_n hx hb1 dX8_lean_55 rfl (lv_at hl 2 rfl) ?_
    refine lv_iconst (v := (0 : Int32)) hx hb1 dX8_lean_56 (by decide) ?_
    obtain ⟨h12, hq⟩ := hq
    refine hh_zst X h ac_26 h12 dX8_lean_57 (fun σ13 H locs eσ13 h => ?_)
    have hq := hq σ13 eσ13
    refine lv_aload_n hx hb1 dX8_lean_58 rfl (lv_at hl 1 rfl) ?_
    refine hh_getr X h fc_0_6 in_X8_lean_X8 kc_0 (by decide) (List.mem_of_getElem? (i := 3) rfl) rfl dX8_lean_59 ?_
    refine hh_kI h (va_runV (As := []) (rest := []) X.1 (ad_X2_run (D := D) l J (b := 1) (Or.inr rfl) σ13 _ hq) (cwV 0 X.1.2.2.2.2 gX8_lean_X2_run rfl rfl rfl nd_X2_run ⟨Nat.le_of_ble_eq_true rfl, Nat.le_of_ble_eq_true rfl⟩) (hh_preV X h fc_8_0 kc_8 []) rfl rfl hl.1 rfl (lv_room (Nat.le_of_ble_eq_true rfl)) dX8_lean_62 ⟨Nat.le_of_ble_eq_true rfl, Nat.le_of_ble_eq_true rfl⟩) (fun r14 σ15 H locs hq h => ?_)
    refine lv_pop hx hb1 dX8_lean_65 rfl ?_
    refine lv_aload_n hx hb1 dX8_lean_66 rfl (lv_at hl 1 rfl) ?_
    refine hh_getr X h fc_0_3 in_X8_lean_X8 kc_0 (by decide) (List.mem_of_getElem? (i := 1) rfl) rfl dX8_lean_67 ?_
    refine hh_getr X h fc_5_1 in_X8_lean_X0 kc_5 (by decide) (List.mem_of_getElem? (i := 2) rfl) rfl dX8_lean_70 ?_
    refine lv_iload_n hx hb1 dX8_lean_73 rfl (lv_at hl 2 rfl) ?_
    refine lv_iload_n hx hb1 dX8_lean_74 rfl (lv_at hl 0 rfl) ?_
    obtain ⟨h16, hq⟩ := hq
    refine hh_zst X h ac_26 h16 dX8_lean_75 (fun σ17 H locs eσ17 h => ?_)
    have hq := hq σ17 eσ17
    refine lv_aload_n hx hb1 dX8_lean_76 rfl (lv_at hl 1 rfl) ?_
    refine hh_getr X h fc_0_6 in_X8_lean_X8 kc_0 (by decide) (List.mem_of_getElem? (i := 3) rfl) rfl dX8_lean_77 ?_
    refine hh_kI h (va_runV (As := []) (rest := []) X.1 (ad_X2_endsUnlikeKept (D := D) l J (b := 1) (Or.inr rfl) σ17 _ hq) (cwV 0 X.1.2.2.2.2 gX8_lean_X2_endsUnlikeKept rfl rfl rfl nd_X2_endsUnlikeKept ⟨Nat.le_of_ble_eq_true rfl, Nat.le_of_ble_eq_true rfl⟩) (hh_preV X h fc_8_0 kc_8 []) rfl rfl hl.1 rfl (lv_room (Nat.le_of_ble_eq_true rfl)) dX8_lean_80 ⟨Nat.le_of_ble_eq_true rfl, Nat.le_of_ble_eq_true rfl⟩) (fun r18 σ19 H locs hq h => ?_)
    exact hh_iret X h hr hlocks hq dX8_lean_83
  · have hq := hq.2 c3
    refine lv_iconst (v := (-1 : Int32)) hx hb1 dX8_lean_11 (by decide) ?_
    exact hh_iret X h hr hlocks hq dX8_lean_12
theorem nd_X8_coins : yX8_coins.cls = RX8 ∧ yX8_coins.cls ≠ "java/lang/invoke/MethodHandle" ∧ yX8_coins.cls ≠ "java/lang/invoke/VarHandle" ∧ (parseMethodDescriptor yX8_coins.desc).map (fun d => d.parameters.length) = some 1 := by decide +kernel
abbrev rm_X8_coins : Room := { frames := 4, cells := 0, slots := 0, locals := 89 }
def wp_X8_coins (x1 : Int32) (σ : hh_S) (Q : Int32 → hh_S → Prop) : Prop := (wp_X0_has x1 σ (fun (r1 : Int32) (σ2 : hh_S) => ((¬ r1 = 0 → (wp_X8_rightOf x1 σ2 (fun (r4 : Int32) (σ5 : hh_S) => (wp_X8_answersOf x1 σ5 (fun (r6 : Int32) (σ7 : hh_S) => (wp_X8_answersToKnown x1 σ7 (fun (r8 : Int32) (σ9 : hh_S) => (∀ v10 : Int32, v10 = ((((hh_rA σ5 29 (3 : Int32)) * r6) + ((hh_rA σ7 29 (4 : Int32)) * r4)) - ((hh_rA σ7 29 (5 : Int32)) * (r8 - r4))) → ((0 ≤ v10 → (Q v10 σ9)) ∧ (¬ 0 ≤ v10 → (Q (0 : Int32) σ9))))))))))) ∧ (r1 = 0 → (Q (-1 : Int32) σ2)))))
theorem in_X8_coins_X8 : ∀ w ∈ u_ws RX8 TX8 13, w ∈ wsX8_coins := fun w h => List.mem_cons_of_mem _ (List.mem_append_left _ (List.mem_append_left _ (List.mem_append_left _ (List.mem_append_right _ h))))
theorem in_X8_coins_X5 : ∀ w ∈ u_ws RX5 TX5 1, w ∈ wsX8_coins := fun w h => List.mem_cons_of_mem _ (List.mem_append_left _ (List.mem_append_left _ (List.mem_append_right _ h)))
theorem in_X8_coins_X0 : ∀ w ∈ u_ws RX0 TX0 4, w ∈ wsX8_coins := fun w h => List.mem_cons_of_mem _ (List.mem_append_left _ (List.mem_append_right _ h))
theorem in_X8_coins_X1 : ∀ w ∈ u_ws RX1 TX1 7, w ∈ wsX8_coins := fun w h => List.mem_cons_of_mem _ (List.mem_append_right _ h)
set_option maxHeartbeats 4000000 in
set_option maxRecDepth 100000 in
theorem ad_X8_coins {D : va_G} (l : Launch) {cy : Nat → ClassId} {ad : Nat → Nat} (J : hh_J hc_Y ad) (x1 : Int32) (σ : hh_S) (Q : Int32 → hh_S → Prop) (hq : wp_X8_coins x1 σ Q) : Met l yX8_coins wsX8_coins rm_X8_coins (va_Pc [.ref (ad 0), .int x1] (hh_B D hh_cl hc_Y cy ad σ)) (va_Qi Q (hh_B D hh_cl hc_Y cy ad) (hh_A hc_Y ad)) 0 0 (hh_A hc_Y ad) := by
  refine Met.ofW (cc := cX8_coins) (maxL := 4) (ret := (some .int)) (by decide) rfl ?_
  intro p e s m args below meth c s₁ B hml hv
  obtain ⟨hargs, hP0, hK0⟩ := hv
  have hr := B.returns
  have hlocks := B.notSynchronized
  have X : hh_X p m c cX8_coins 4 s args wsX8_coins RX8 D hh_cl hc_Y cy ad := ⟨⟨B.exec, B.bytes, hml, findClass_of_methodNamed B.named, atoms_spec (ws := wsX8_coins) B.pre⟩, hK0, J⟩
  have hx := X.1.1
  have hb1 := X.1.2.1
  have h : hh_H D hh_cl hc_Y cy ad s.heap σ s.heap [] := ⟨hP0, va_S.rf⟩
  subst hargs
  refine hh_entry (vs := [.ref (ad 0), .int x1]) (Nat.le_of_ble_eq_true rfl) (fun ls hl => ?_)
  have hl : lv_has ls 4 [(0, .ref (ad 0)), (1, .int x1)] := hl
  have hq : wp_X8_coins x1 σ Q := hq
  unfold wp_X8_coins at hq
  refine lv_aload_n hx hb1 dX8_coins_0 rfl (lv_at hl 0 rfl) ?_
  refine hh_getr X h fc_0_3 in_X8_coins_X8 kc_0 (by decide) (List.mem_of_getElem? (i := 1) rfl) rfl dX8_coins_1 ?_
  refine lv_iload_n hx hb1 dX8_coins_4 rfl (lv_at hl 1 rfl) ?_
  refine hh_kI h (va_runV (As := [.int x1]) (rest := []) X.1 (ad_X0_has (D := D) l J x1 σ _ hq) (cwV 1 X.1.2.2.2.2 gX8_coins_X0_has rfl rfl rfl nd_X0_has ⟨Nat.le_of_ble_eq_true rfl, Nat.le_of_ble_eq_true rfl⟩) (hh_preV X h fc_5_0 kc_5 [.int x1]) rfl rfl hl.1 rfl (lv_room (Nat.le_of_ble_eq_true rfl)) dX8_coins_5 ⟨Nat.le_of_ble_eq_true rfl, Nat.le_of_ble_eq_true rfl⟩) (fun r1 σ2 H locs hq h => ?_)
  refine lv_if_ne (tgt := 13) hx hb1 dX8_coins_8 (by decide) (fun c3 => ?_) (fun c3 => ?_)
  · have hq := hq.1 c3
    refine lv_aload_n hx hb1 dX8_coins_13 rfl (lv_at hl 0 rfl) ?_
    refine lv_iload_n hx hb1 dX8_coins_14 rfl (lv_at hl 1 rfl) ?_
    refine hh_kI h (va_runV (As := [.int x1]) (rest := []) X.1 (ad_X8_rightOf (D := D) l J x1 σ2 _ hq) (cwV 1 X.1.2.2.2.2 gX8_coins_X8_rightOf rfl rfl rfl nd_X8_rightOf ⟨Nat.le_of_ble_eq_true rfl, Nat.le_of_ble_eq_true rfl⟩) (hh_preV X h fc_0_0 kc_0 [.int x1]) rfl rfl hl.1 rfl (lv_room (Nat.le_of_ble_eq_true rfl)) dX8_coins_15 ⟨Nat.le_of_ble_eq_true rfl, Nat.le_of_ble_eq_true rfl⟩) (fun r4 σ5 H locs hq h => ?_)
    refine lv_istore_n (lv' := [(2, .int r4), (0, .ref (ad 0)), (1, .int x1)]) hx hb1 dX8_coins_18 rfl hl (by decide) rfl (fun ls hl => ?_)
    refine lv_aload_n hx hb1 dX8_coins_19 rfl (lv_at hl 1 rfl) ?_
    refine hh_getr X h fc_0_4 in_X8_coins_X8 kc_0 (by decide) (List.mem_of_getElem? (i := 2) rfl) rfl dX8_coins_20 ?_
    refine hh_getr X h fc_6_0 in_X8_coins_X5 kc_6 (by decide) (List.mem_of_getElem? (i := 3) rfl) rfl dX8_coins_23 ?_
    refine lv_iconst (v := (3 : Int32)) hx hb1 dX8_coins_26 (by decide) ?_
    refine hh_ild X h ac_29 (vp_in_iff.mpr (by decide)) dX8_coins_27 ?_
    refine lv_aload_n hx hb1 dX8_coins_28 rfl (lv_at hl 1 rfl) ?_
    refine lv_iload_n hx hb1 dX8_coins_29 rfl (lv_at hl 2 rfl) ?_
    refine hh_kI h (va_runV (As := [.int x1]) (rest := [.int (hh_rA σ5 29 (3 : Int32))]) X.1 (ad_X8_answersOf (D := D) l J x1 σ5 _ hq) (cwV 1 X.1.2.2.2.2 gX8_coins_X8_answersOf rfl rfl rfl nd_X8_answersOf ⟨Nat.le_of_ble_eq_true rfl, Nat.le_of_ble_eq_true rfl⟩) (hh_preV X h fc_0_0 kc_0 [.int x1]) rfl rfl hl.1 rfl (lv_room (Nat.le_of_ble_eq_true rfl)) dX8_coins_30 ⟨Nat.le_of_ble_eq_true rfl, Nat.le_of_ble_eq_true rfl⟩) (fun r6 σ7 H locs hq h => ?_)
    refine lv_imul hx hb1 dX8_coins_33 ?_
    refine lv_aload_n hx hb1 dX8_coins_34 rfl (lv_at hl 1 rfl) ?_
    refine hh_getr X h fc_0_4 in_X8_coins_X8 kc_0 (by decide) (List.mem_of_getElem? (i := 2) rfl) rfl dX8_coins_35 ?_
    refine hh_getr X h fc_6_0 in_X8_coins_X5 kc_6 (by decide) (List.mem_of_getElem? (i := 3) rfl) rfl dX8_coins_38 ?_
    refine lv_iconst (v := (4 : Int32)) hx hb1 dX8_coins_41 (by decide) ?_
    refine hh_ild X h ac_29 (vp_in_iff.mpr (by decide)) dX8_coins_42 ?_
    refine lv_iload_n hx hb1 dX8_coins_43 rfl (lv_at hl 0 rfl) ?_
    refine lv_imul hx hb1 dX8_coins_44 ?_
    refine lv_iadd hx hb1 dX8_coins_45 ?_
    refine lv_aload_n hx hb1 dX8_coins_46 rfl (lv_at hl 1 rfl) ?_
    refine hh_getr X h fc_0_4 in_X8_coins_X8 kc_0 (by decide) (List.mem_of_getElem? (i := 2) rfl) rfl dX8_coins_47 ?_
    refine hh_getr X h fc_6_0 in_X8_coins_X5 kc_6 (by decide) (List.mem_of_getElem? (i := 3) rfl) rfl dX8_coins_50 ?_
    refine lv_iconst (v := (5 : Int32)) hx hb1 dX8_coins_53 (by decide) ?_
    refine hh_ild X h ac_29 (vp_in_iff.mpr (by decide)) dX8_coins_54 ?_
    refine lv_aload_n hx hb1 dX8_coins_55 rfl (lv_at hl 1 rfl) ?_
    refine lv_iload_n hx hb1 dX8_coins_56 rfl (lv_at hl 2 rfl) ?_
    refine hh_kI h (va_runV (As := [.int x1]) (rest := [.int (hh_rA σ7 29 (5 : Int32)), .int (((hh_rA σ5 29 (3 : Int32)) * r6) + ((hh_rA σ7 29 (4 : Int32)) * r4))]) X.1 (ad_X8_answersToKnown (D := D) l J x1 σ7 _ hq) (cwV 1 X.1.2.2.2.2 gX8_coins_X8_answersToKnown rfl rfl rfl nd_X8_answersToKnown ⟨Nat.le_of_ble_eq_true rfl, Nat.le_of_ble_eq_true rfl⟩) (hh_preV X h fc_0_0 kc_0 [.int x1]) rfl rfl hl.1 rfl (lv_room (Nat.le_of_ble_eq_true rfl)) dX8_coins_57 ⟨Nat.le_of_ble_eq_true rfl, Nat.le_of_ble_eq_true rfl⟩) (fun r8 σ9 H locs hq h => ?_)
    refine lv_iload_n hx hb1 dX8_coins_60 rfl (lv_at hl 0 rfl) ?_
    refine lv_isub hx hb1 dX8_coins_61 ?_
    refine lv_imul hx hb1 dX8_coins_62 ?_
    refine lv_isub hx hb1 dX8_coins_63 ?_
    refine lv_topi (fun v10 ev10 => ?_)
    have hq := hq v10 ev10
    refine lv_istore_n (lv' := [(3, .int v10), (2, .int r4), (0, .ref (ad 0)), (1, .int x1)]) hx hb1 dX8_coins_64 rfl hl (by decide) rfl (fun ls hl => ?_)
    refine lv_iload_n hx hb1 dX8_coins_65 rfl (lv_at hl 0 rfl) ?_
    refine lv_if_ge (tgt := 73) hx hb1 dX8_coins_66 (by decide) (fun c11 => ?_) (fun c11 => ?_)
    · have hq := hq.1 c11
      refine lv_iload_n hx hb1 dX8_coins_73 rfl (lv_at hl 0 rfl) ?_
      exact hh_iret X h hr hlocks hq dX8_coins_74
    · have hq := hq.2 c11
      refine lv_iconst (v := (0 : Int32)) hx hb1 dX8_coins_69 (by decide) ?_
      refine lv_goto (tgt := 74) hx hb1 dX8_coins_70 (by decide) ?_
      exact hh_iret X h hr hlocks hq dX8_coins_74
  · have hq := hq.2 c3
    refine lv_iconst (v := (-1 : Int32)) hx hb1 dX8_coins_11 (by decide) ?_
    exact hh_iret X h hr hlocks hq dX8_coins_12
