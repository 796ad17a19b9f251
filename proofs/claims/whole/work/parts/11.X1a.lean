theorem nd_X1_has : yX1_has.cls = RX1 ∧ yX1_has.cls ≠ "java/lang/invoke/MethodHandle" ∧ yX1_has.cls ≠ "java/lang/invoke/VarHandle" ∧ (parseMethodDescriptor yX1_has.desc).map (fun d => d.parameters.length) = some 1 := by decide +kernel
abbrev rm_X1_has : Room := { frames := 0, cells := 0, slots := 0, locals := 0 }
def wp_X1_has (x1 : Int32) (σ : hh_S) (Q : Int32 → hh_S → Prop) : Prop := ((x1 < 0 → (Q (0 : Int32) σ)) ∧ (¬ x1 < 0 → (((hh_I σ 256) ≤ x1 → (Q (0 : Int32) σ)) ∧ (¬ (hh_I σ 256) ≤ x1 → (Q (1 : Int32) σ)))))
theorem in_X1_has_X1 : ∀ w ∈ u_ws RX1 TX1 7, w ∈ wsX1_has := fun w h => List.mem_cons_of_mem _ (List.mem_append_right _ h)
set_option maxHeartbeats 4000000 in
set_option maxRecDepth 100000 in
theorem ad_X1_has {D : va_G} (l : Launch) {cy : Nat → ClassId} {ad : Nat → Nat} (J : hh_J hc_Y ad) (x1 : Int32) (σ : hh_S) (Q : Int32 → hh_S → Prop) (hq : wp_X1_has x1 σ Q) : Met l yX1_has wsX1_has rm_X1_has (va_Pc [.ref (ad 4), .int x1] (hh_B D hh_cl hc_Y cy ad σ)) (va_Qi Q (hh_B D hh_cl hc_Y cy ad) (hh_A hc_Y ad)) 0 0 (hh_A hc_Y ad) := by
  refine Met.ofW (cc := cX1_has) (maxL := 2) (ret := (some .boolean)) (by decide) rfl ?_
  intro p e s m args below meth c s₁ B hml hv
  obtain ⟨hargs, hP0, hK0⟩ := hv
  have hr := B.returns
  have hlocks := B.notSynchronized
  have X : hh_X p m c cX1_has 2 s args wsX1_has RX1 D hh_cl hc_Y cy ad := ⟨⟨B.exec, B.bytes, hml, findClass_of_methodNamed B.named, atoms_spec (ws := wsX1_has) B.pre⟩, hK0, J⟩
  have hx := X.1.1
  have hb1 := X.1.2.1
  have h : hh_H D hh_cl hc_Y cy ad s.heap σ s.heap [] := ⟨hP0, va_S.rf⟩
  subst hargs
  refine hh_entry (vs := [.ref (ad 4), .int x1]) (Nat.le_of_ble_eq_true rfl) (fun ls hl => ?_)
  have hl : lv_has ls 2 [(0, .ref (ad 4)), (1, .int x1)] := hl
  have hq : wp_X1_has x1 σ Q := hq
  unfold wp_X1_has at hq
  refine lv_iload_n hx hb1 dX1_has_0 rfl (lv_at hl 1 rfl) ?_
  refine lv_if_lt (tgt := 16) hx hb1 dX1_has_1 (by decide) (fun c1 => ?_) (fun c1 => ?_)
  · have hq := hq.1 c1
    refine lv_iconst (v := (0 : Int32)) hx hb1 dX1_has_16 (by decide) ?_
    exact hh_zret X h hr hlocks rfl hq dX1_has_17
  · have hq := hq.2 c1
    refine lv_iload_n hx hb1 dX1_has_4 rfl (lv_at hl 1 rfl) ?_
    refine lv_aload_n hx hb1 dX1_has_5 rfl (lv_at hl 0 rfl) ?_
    refine hh_geti X h (q := 256) fc_4_0 rfl in_X1_has_X1 kc_4 (by decide) (List.mem_of_getElem? (i := 1) rfl) rfl dX1_has_6 ?_
    refine lv_icmp_ge (tgt := 16) hx hb1 dX1_has_9 (by decide) (fun c2 => ?_) (fun c2 => ?_)
    · have hq := hq.1 c2
      refine lv_iconst (v := (0 : Int32)) hx hb1 dX1_has_16 (by decide) ?_
      exact hh_zret X h hr hlocks rfl hq dX1_has_17
    · have hq := hq.2 c2
      refine lv_iconst (v := (1 : Int32)) hx hb1 dX1_has_12 (by decide) ?_
      refine lv_goto (tgt := 17) hx hb1 dX1_has_13 (by decide) ?_
      exact hh_zret X h hr hlocks rfl hq dX1_has_17
theorem nd_X1_hasLabel : yX1_hasLabel.cls = RX1 ∧ yX1_hasLabel.cls ≠ "java/lang/invoke/MethodHandle" ∧ yX1_hasLabel.cls ≠ "java/lang/invoke/VarHandle" ∧ (parseMethodDescriptor yX1_hasLabel.desc).map (fun d => d.parameters.length) = some 2 := by decide +kernel
abbrev rm_X1_hasLabel : Room := { frames := 1, cells := 0, slots := 0, locals := 21 }
def wp_X1_hasLabel (x1 : Int32) (x2 : Int32) (σ : hh_S) (Q : Int32 → hh_S → Prop) : Prop := (wp_X1_has x1 σ (fun (r1 : Int32) (σ2 : hh_S) => ((r1 = 0 → (Q (0 : Int32) σ2)) ∧ (¬ r1 = 0 → ((x2 < 0 → (Q (0 : Int32) σ2)) ∧ (¬ x2 < 0 → (vp_in x1 24 ∧ (((hh_rA σ2 22 x1) ≤ x2 → (Q (0 : Int32) σ2)) ∧ (¬ (hh_rA σ2 22 x1) ≤ x2 → (Q (1 : Int32) σ2))))))))))
theorem in_X1_hasLabel_X1 : ∀ w ∈ u_ws RX1 TX1 7, w ∈ wsX1_hasLabel := fun w h => List.mem_cons_of_mem _ (List.mem_append_right _ h)
set_option maxHeartbeats 4000000 in
set_option maxRecDepth 100000 in
theorem ad_X1_hasLabel {D : va_G} (l : Launch) {cy : Nat → ClassId} {ad : Nat → Nat} (J : hh_J hc_Y ad) (x1 : Int32) (x2 : Int32) (σ : hh_S) (Q : Int32 → hh_S → Prop) (hq : wp_X1_hasLabel x1 x2 σ Q) : Met l yX1_hasLabel wsX1_hasLabel rm_X1_hasLabel (va_Pc [.ref (ad 4), .int x1, .int x2] (hh_B D hh_cl hc_Y cy ad σ)) (va_Qi Q (hh_B D hh_cl hc_Y cy ad) (hh_A hc_Y ad)) 0 0 (hh_A hc_Y ad) := by
  refine Met.ofW (cc := cX1_hasLabel) (maxL := 3) (ret := (some .boolean)) (by decide) rfl ?_
  intro p e s m args below meth c s₁ B hml hv
  obtain ⟨hargs, hP0, hK0⟩ := hv
  have hr := B.returns
  have hlocks := B.notSynchronized
  have X : hh_X p m c cX1_hasLabel 3 s args wsX1_hasLabel RX1 D hh_cl hc_Y cy ad := ⟨⟨B.exec, B.bytes, hml, findClass_of_methodNamed B.named, atoms_spec (ws := wsX1_hasLabel) B.pre⟩, hK0, J⟩
  have hx := X.1.1
  have hb1 := X.1.2.1
  have h : hh_H D hh_cl hc_Y cy ad s.heap σ s.heap [] := ⟨hP0, va_S.rf⟩
  subst hargs
  refine hh_entry (vs := [.ref (ad 4), .int x1, .int x2]) (Nat.le_of_ble_eq_true rfl) (fun ls hl => ?_)
  have hl : lv_has ls 3 [(0, .ref (ad 4)), (1, .int x1), (2, .int x2)] := hl
  have hq : wp_X1_hasLabel x1 x2 σ Q := hq
  unfold wp_X1_hasLabel at hq
  refine lv_aload_n hx hb1 dX1_hasLabel_0 rfl (lv_at hl 0 rfl) ?_
  refine lv_iload_n hx hb1 dX1_hasLabel_1 rfl (lv_at hl 1 rfl) ?_
  refine hh_kI h (va_runV (As := [.int x1]) (rest := []) X.1 (ad_X1_has (D := D) l J x1 σ _ hq) (cwV 1 X.1.2.2.2.2 gX1_hasLabel_X1_has rfl rfl rfl nd_X1_has ⟨Nat.le_of_ble_eq_true rfl, Nat.le_of_ble_eq_true rfl⟩) (hh_preV X h fc_4_0 kc_4 [.int x1]) rfl rfl hl.1 rfl (lv_room (Nat.le_of_ble_eq_true rfl)) dX1_hasLabel_2 ⟨Nat.le_of_ble_eq_true rfl, Nat.le_of_ble_eq_true rfl⟩) (fun r1 σ2 H locs hq h => ?_)
  refine lv_if_eq (tgt := 26) hx hb1 dX1_hasLabel_5 (by decide) (fun c3 => ?_) (fun c3 => ?_)
  · have hq := hq.1 c3
    refine lv_iconst (v := (0 : Int32)) hx hb1 dX1_hasLabel_26 (by decide) ?_
    exact hh_zret X h hr hlocks rfl hq dX1_hasLabel_27
  · have hq := hq.2 c3
    refine lv_iload_n hx hb1 dX1_hasLabel_8 rfl (lv_at hl 2 rfl) ?_
    refine lv_if_lt (tgt := 26) hx hb1 dX1_hasLabel_9 (by decide) (fun c4 => ?_) (fun c4 => ?_)
    · have hq := hq.1 c4
      refine lv_iconst (v := (0 : Int32)) hx hb1 dX1_hasLabel_26 (by decide) ?_
      exact hh_zret X h hr hlocks rfl hq dX1_hasLabel_27
    · have hq := hq.2 c4
      refine lv_iload_n hx hb1 dX1_hasLabel_12 rfl (lv_at hl 2 rfl) ?_
      refine lv_aload_n hx hb1 dX1_hasLabel_13 rfl (lv_at hl 0 rfl) ?_
      refine hh_getr X h fc_4_3 in_X1_hasLabel_X1 kc_4 (by decide) (List.mem_of_getElem? (i := 1) rfl) rfl dX1_hasLabel_14 ?_
      refine lv_iload_n hx hb1 dX1_hasLabel_17 rfl (lv_at hl 1 rfl) ?_
      obtain ⟨h5, hq⟩ := hq
      refine hh_ild X h ac_22 h5 dX1_hasLabel_18 ?_
      refine lv_icmp_ge (tgt := 26) hx hb1 dX1_hasLabel_19 (by decide) (fun c6 => ?_) (fun c6 => ?_)
      · have hq := hq.1 c6
        refine lv_iconst (v := (0 : Int32)) hx hb1 dX1_hasLabel_26 (by decide) ?_
        exact hh_zret X h hr hlocks rfl hq dX1_hasLabel_27
      · have hq := hq.2 c6
        refine lv_iconst (v := (1 : Int32)) hx hb1 dX1_hasLabel_22 (by decide) ?_
        refine lv_goto (tgt := 27) hx hb1 dX1_hasLabel_23 (by decide) ?_
        exact hh_zret X h hr hlocks rfl hq dX1_hasLabel_27
theorem nd_X1_find : yX1_find.cls = RX1 ∧ yX1_find.cls ≠ "java/lang/invoke/MethodHandle" ∧ yX1_find.cls ≠ "java/lang/invoke/VarHandle" ∧ (parseMethodDescriptor yX1_find.desc).map (fun d => d.parameters.length) = some 2 := by decide +kernel
abbrev rm_X1_find : Room := { frames := 0, cells := 0, slots := 0, locals := 0 }
def wq_X1_find_2 (x1 : Int32) (x2 : Int32) (Q : Int32 → hh_S → Prop) (K2 : Int32 → hh_S → Prop) (x3 : Int32) (σ : hh_S) : Prop := (((hh_I σ 256) ≤ x3 → (Q (-6 : Int32) σ)) ∧ (¬ (hh_I σ 256) ≤ x3 → (vp_in x3 24 ∧ ((¬ (hh_rA σ 20 x3) = x1 → (K2 (x3 + (1 : Int32)) σ)) ∧ ((hh_rA σ 20 x3) = x1 → (vp_in x3 24 ∧ ((¬ (hh_rA σ 21 x3) = x2 → (K2 (x3 + (1 : Int32)) σ)) ∧ ((hh_rA σ 21 x3) = x2 → (Q x3 σ)))))))))
def wp_X1_find (x1 : Int32) (x2 : Int32) (σ : hh_S) (Q : Int32 → hh_S → Prop) : Prop := (∃ n : Nat, hh_lp1 (wq_X1_find_2 x1 x2 Q) n (0 : Int32) σ)
theorem in_X1_find_X1 : ∀ w ∈ u_ws RX1 TX1 7, w ∈ wsX1_find := fun w h => List.mem_cons_of_mem _ (List.mem_append_right _ h)
set_option maxHeartbeats 4000000 in
set_option maxRecDepth 100000 in
theorem ad_X1_find {D : va_G} (l : Launch) {cy : Nat → ClassId} {ad : Nat → Nat} (J : hh_J hc_Y ad) (x1 : Int32) (x2 : Int32) (σ : hh_S) (Q : Int32 → hh_S → Prop) (hq : wp_X1_find x1 x2 σ Q) : Met l yX1_find wsX1_find rm_X1_find (va_Pc [.ref (ad 4), .int x1, .int x2] (hh_B D hh_cl hc_Y cy ad σ)) (va_Qi Q (hh_B D hh_cl hc_Y cy ad) (hh_A hc_Y ad)) 0 0 (hh_A hc_Y ad) := by
  refine Met.ofW (cc := cX1_find) (maxL := 4) (ret := (some .int)) (by decide) rfl ?_
  intro p e s m args below meth c s₁ B hml hv
  obtain ⟨hargs, hP0, hK0⟩ := hv
  have hr := B.returns
  have hlocks := B.notSynchronized
  have X : hh_X p m c cX1_find 4 s args wsX1_find RX1 D hh_cl hc_Y cy ad := ⟨⟨B.exec, B.bytes, hml, findClass_of_methodNamed B.named, atoms_spec (ws := wsX1_find) B.pre⟩, hK0, J⟩
  have hx := X.1.1
  have hb1 := X.1.2.1
  have h : hh_H D hh_cl hc_Y cy ad s.heap σ s.heap [] := ⟨hP0, va_S.rf⟩
  have lt_2 : ∀ (x1 : Int32) (x2 : Int32) (n : Nat) (x3 : Int32) (σ : hh_S) (H : Heap) (locs : List Loc) (ls : Array Slot), hh_lp1 (wq_X1_find_2 x1 x2 Q) n x3 σ → hh_H D hh_cl hc_Y cy ad s.heap σ H locs → lv_has ls 4 [(0, .ref (ad 4)), (1, .int x1), (2, .int x2), (3, .int x3)] → W p l e (headSpec wsX1_find rm_X1_find).room s m args below meth c H locs 0 0 (MQ below (va_Qi Q (hh_B D hh_cl hc_Y cy ad) (hh_A hc_Y ad)) args s 0 0 (hh_A hc_Y ad)) (F0 m 2 ls []) := by
    intro x1 x2 n
    induction n with
    | zero => intro x3 σ H locs ls hq h hl; exact hq.elim
    | succ n ih =>
      intro x3 σ H locs ls hq h hl
      have hq : wq_X1_find_2 x1 x2 Q (hh_lp1 (wq_X1_find_2 x1 x2 Q) n) x3 σ := hq
      unfold wq_X1_find_2 at hq
      refine lv_iload_n hx hb1 dX1_find_2 rfl (lv_at hl 3 rfl) ?_
      refine lv_aload_n hx hb1 dX1_find_3 rfl (lv_at hl 0 rfl) ?_
      refine hh_geti X h (q := 256) fc_4_0 rfl in_X1_find_X1 kc_4 (by decide) (List.mem_of_getElem? (i := 1) rfl) rfl dX1_find_4 ?_
      refine lv_icmp_ge (tgt := 38) hx hb1 dX1_find_7 (by decide) (fun c1 => ?_) (fun c1 => ?_)
      · have hq := hq.1 c1
        refine lv_bipush (v := (-6 : Int32)) hx hb1 dX1_find_38 (by decide) ?_
        exact hh_iret X h hr hlocks hq dX1_find_40
      · have hq := hq.2 c1
        refine lv_aload_n hx hb1 dX1_find_10 rfl (lv_at hl 0 rfl) ?_
        refine hh_getr X h fc_4_1 in_X1_find_X1 kc_4 (by decide) (List.mem_of_getElem? (i := 2) rfl) rfl dX1_find_11 ?_
        refine lv_iload_n hx hb1 dX1_find_14 rfl (lv_at hl 3 rfl) ?_
        obtain ⟨h2, hq⟩ := hq
        refine hh_ild X h ac_20 h2 dX1_find_15 ?_
        refine lv_iload_n hx hb1 dX1_find_16 rfl (lv_at hl 1 rfl) ?_
        refine lv_icmp_ne (tgt := 32) hx hb1 dX1_find_17 (by decide) (fun c3 => ?_) (fun c3 => ?_)
        · have hq := hq.1 c3
          refine lv_iinc (v := (x3 + (1 : Int32))) (lv' := [(3, .int (x3 + (1 : Int32))), (0, .ref (ad 4)), (1, .int x1), (2, .int x2)]) hx hb1 dX1_find_32 hl (k := 3) rfl rfl (by decide) rfl (fun ls hl => ?_)
          refine lv_goto (tgt := 2) hx hb1 dX1_find_35 (by decide) ?_
          exact ih (x3 + (1 : Int32)) σ _ _ ls hq h (lv_sub hl [1, 2, 3, 0] rfl)
        · have hq := hq.2 c3
          refine lv_aload_n hx hb1 dX1_find_20 rfl (lv_at hl 0 rfl) ?_
          refine hh_getr X h fc_4_2 in_X1_find_X1 kc_4 (by decide) (List.mem_of_getElem? (i := 3) rfl) rfl dX1_find_21 ?_
          refine lv_iload_n hx hb1 dX1_find_24 rfl (lv_at hl 3 rfl) ?_
          obtain ⟨h4, hq⟩ := hq
          refine hh_ild X h ac_21 h4 dX1_find_25 ?_
          refine lv_iload_n hx hb1 dX1_find_26 rfl (lv_at hl 2 rfl) ?_
          refine lv_icmp_ne (tgt := 32) hx hb1 dX1_find_27 (by decide) (fun c5 => ?_) (fun c5 => ?_)
          · have hq := hq.1 c5
            refine lv_iinc (v := (x3 + (1 : Int32))) (lv' := [(3, .int (x3 + (1 : Int32))), (0, .ref (ad 4)), (1, .int x1), (2, .int x2)]) hx hb1 dX1_find_32 hl (k := 3) rfl rfl (by decide) rfl (fun ls hl => ?_)
            refine lv_goto (tgt := 2) hx hb1 dX1_find_35 (by decide) ?_
            exact ih (x3 + (1 : Int32)) σ _ _ ls hq h (lv_sub hl [1, 2, 3, 0] rfl)
          · have hq := hq.2 c5
            refine lv_iload_n hx hb1 dX1_find_30 rfl (lv_at hl 3 rfl) ?_
            exact hh_iret X h hr hlocks hq dX1_find_31
  subst hargs
  refine hh_entry (vs := [.ref (ad 4), .int x1, .int x2]) (Nat.le_of_ble_eq_true rfl) (fun ls hl => ?_)
  have hl : lv_has ls 4 [(0, .ref (ad 4)), (1, .int x1), (2, .int x2)] := hl
  have hq : wp_X1_find x1 x2 σ Q := hq
  unfold wp_X1_find at hq
  refine lv_iconst (v := (0 : Int32)) hx hb1 dX1_find_0 (by decide) ?_
  refine lv_istore_n (lv' := [(3, .int (0 : Int32)), (0, .ref (ad 4)), (1, .int x1), (2, .int x2)]) hx hb1 dX1_find_1 rfl hl (by decide) rfl (fun ls hl => ?_)
  obtain ⟨n6, hq⟩ := hq
  exact lt_2 x1 x2 n6 (0 : Int32) σ _ _ ls hq h (lv_sub hl [1, 2, 3, 0] rfl)
theorem nd_X1_add : yX1_add.cls = RX1 ∧ yX1_add.cls ≠ "java/lang/invoke/MethodHandle" ∧ yX1_add.cls ≠ "java/lang/invoke/VarHandle" ∧ (parseMethodDescriptor yX1_add.desc).map (fun d => d.parameters.length) = some 3 := by decide +kernel
abbrev rm_X1_add : Room := { frames := 0, cells := 0, slots := 0, locals := 0 }
def wp_X1_add (x1 : Int32) (x2 : Int32) (x3 : Int32) (σ : hh_S) (Q : Int32 → hh_S → Prop) : Prop := (∀ v1 : Int32, v1 = (hh_I σ 256) → (vp_in v1 24 ∧ ∀ σ3 : hh_S, σ3 = hh_sA σ 20 v1 x1 → (vp_in v1 24 ∧ ∀ σ5 : hh_S, σ5 = hh_sA σ3 21 v1 x2 → (vp_in v1 24 ∧ ∀ σ7 : hh_S, σ7 = hh_sA σ5 22 v1 x3 → (vp_in v1 24 ∧ ∀ σ9 : hh_S, σ9 = hh_sA σ7 23 v1 (-6 : Int32) → (vp_in v1 24 ∧ ∀ σ11 : hh_S, σ11 = hh_sA σ9 24 v1 (-6 : Int32) → (vp_in v1 24 ∧ ∀ σ13 : hh_S, σ13 = hh_sA σ11 25 v1 (0 : Int32) → (∀ σ14 : hh_S, σ14 = hh_uI σ13 256 ((hh_I σ13 256) + (1 : Int32)) → (Q v1 σ14)))))))))
theorem in_X1_add_X1 : ∀ w ∈ u_ws RX1 TX1 7, w ∈ wsX1_add := fun w h => List.mem_cons_of_mem _ (List.mem_append_right _ h)
set_option maxHeartbeats 4000000 in
set_option maxRecDepth 100000 in
theorem ad_X1_add {D : va_G} (l : Launch) {cy : Nat → ClassId} {ad : Nat → Nat} (J : hh_J hc_Y ad) (x1 : Int32) (x2 : Int32) (x3 : Int32) (σ : hh_S) (Q : Int32 → hh_S → Prop) (hq : wp_X1_add x1 x2 x3 σ Q) : Met l yX1_add wsX1_add rm_X1_add (va_Pc [.ref (ad 4), .int x1, .int x2, .int x3] (hh_B D hh_cl hc_Y cy ad σ)) (va_Qi Q (hh_B D hh_cl hc_Y cy ad) (hh_A hc_Y ad)) 0 0 (hh_A hc_Y ad) := by
  refine Met.ofW (cc := cX1_add) (maxL := 5) (ret := (some .int)) (by decide) rfl ?_
  intro p e s m args below meth c s₁ B hml hv
  obtain ⟨hargs, hP0, hK0⟩ := hv
  have hr := B.returns
  have hlocks := B.notSynchronized
  have X : hh_X p m c cX1_add 5 s args wsX1_add RX1 D hh_cl hc_Y cy ad := ⟨⟨B.exec, B.bytes, hml, findClass_of_methodNamed B.named, atoms_spec (ws := wsX1_add) B.pre⟩, hK0, J⟩
  have hx := X.1.1
  have hb1 := X.1.2.1
  have h : hh_H D hh_cl hc_Y cy ad s.heap σ s.heap [] := ⟨hP0, va_S.rf⟩
  subst hargs
  refine hh_entry (vs := [.ref (ad 4), .int x1, .int x2, .int x3]) (Nat.le_of_ble_eq_true rfl) (fun ls hl => ?_)
  have hl : lv_has ls 5 [(0, .ref (ad 4)), (1, .int x1), (2, .int x2), (3, .int x3)] := hl
  have hq : wp_X1_add x1 x2 x3 σ Q := hq
  unfold wp_X1_add at hq
  refine lv_aload_n hx hb1 dX1_add_0 rfl (lv_at hl 0 rfl) ?_
  refine hh_geti X h (q := 256) fc_4_0 rfl in_X1_add_X1 kc_4 (by decide) (List.mem_of_getElem? (i := 1) rfl) rfl dX1_add_1 ?_
  refine lv_topi (fun v1 ev1 => ?_)
  have hq := hq v1 ev1
  refine lv_istore (lv' := [(4, .int v1), (0, .ref (ad 4)), (1, .int x1), (2, .int x2), (3, .int x3)]) hx hb1 dX1_add_4 hl (by decide) rfl (fun ls hl => ?_)
  refine lv_aload_n hx hb1 dX1_add_6 rfl (lv_at hl 1 rfl) ?_
  refine hh_getr X h fc_4_1 in_X1_add_X1 kc_4 (by decide) (List.mem_of_getElem? (i := 2) rfl) rfl dX1_add_7 ?_
  refine lv_iload hx hb1 dX1_add_10 (lv_at hl 0 rfl) ?_
  refine lv_iload_n hx hb1 dX1_add_12 rfl (lv_at hl 2 rfl) ?_
  obtain ⟨h2, hq⟩ := hq
  refine hh_ist X h ac_20 h2 dX1_add_13 (fun σ3 H locs eσ3 h => ?_)
  have hq := hq σ3 eσ3
  refine lv_aload_n hx hb1 dX1_add_14 rfl (lv_at hl 1 rfl) ?_
  refine hh_getr X h fc_4_2 in_X1_add_X1 kc_4 (by decide) (List.mem_of_getElem? (i := 3) rfl) rfl dX1_add_15 ?_
  refine lv_iload hx hb1 dX1_add_18 (lv_at hl 0 rfl) ?_
  refine lv_iload_n hx hb1 dX1_add_20 rfl (lv_at hl 3 rfl) ?_
  obtain ⟨h4, hq⟩ := hq
  refine hh_ist X h ac_21 h4 dX1_add_21 (fun σ5 H locs eσ5 h => ?_)
  have hq := hq σ5 eσ5
  refine lv_aload_n hx hb1 dX1_add_22 rfl (lv_at hl 1 rfl) ?_
  refine hh_getr X h fc_4_3 in_X1_add_X1 kc_4 (by decide) (List.mem_of_getElem? (i := 4) rfl) rfl dX1_add_23 ?_
  refine lv_iload hx hb1 dX1_add_26 (lv_at hl 0 rfl) ?_
  refine lv_iload_n hx hb1 dX1_add_28 rfl (lv_at hl 4 rfl) ?_
  obtain ⟨h6, hq⟩ := hq
  refine hh_ist X h ac_22 h6 dX1_add_29 (fun σ7 H locs eσ7 h => ?_)
  have hq := hq σ7 eσ7
  refine lv_aload_n hx hb1 dX1_add_30 rfl (lv_at hl 1 rfl) ?_
  refine hh_getr X h fc_4_4 in_X1_add_X1 kc_4 (by decide) (List.mem_of_getElem? (i := 5) rfl) rfl dX1_add_31 ?_
  refine lv_iload hx hb1 dX1_add_34 (lv_at hl 0 rfl) ?_
  refine lv_bipush (v := (-6 : Int32)) hx hb1 dX1_add_36 (by decide) ?_
  obtain ⟨h8, hq⟩ := hq
  refine hh_ist X h ac_23 h8 dX1_add_38 (fun σ9 H locs eσ9 h => ?_)
  have hq := hq σ9 eσ9
  refine lv_aload_n hx hb1 dX1_add_39 rfl (lv_at hl 1 rfl) ?_
  refine hh_getr X h fc_4_5 in_X1_add_X1 kc_4 (by decide) (List.mem_of_getElem? (i := 6) rfl) rfl dX1_add_40 ?_
  refine lv_iload hx hb1 dX1_add_43 (lv_at hl 0 rfl) ?_
  refine lv_bipush (v := (-6 : Int32)) hx hb1 dX1_add_45 (by decide) ?_
  obtain ⟨h10, hq⟩ := hq
  refine hh_ist X h ac_24 h10 dX1_add_47 (fun σ11 H locs eσ11 h => ?_)
  have hq := hq σ11 eσ11
  refine lv_aload_n hx hb1 dX1_add_48 rfl (lv_at hl 1 rfl) ?_
  refine hh_getr X h fc_4_6 in_X1_add_X1 kc_4 (by decide) (List.mem_of_getElem? (i := 7) rfl) rfl dX1_add_49 ?_
  refine lv_iload hx hb1 dX1_add_52 (lv_at hl 0 rfl) ?_
  refine lv_iconst (v := (0 : Int32)) hx hb1 dX1_add_54 (by decide) ?_
  obtain ⟨h12, hq⟩ := hq
  refine hh_ist X h ac_25 h12 dX1_add_55 (fun σ13 H locs eσ13 h => ?_)
  have hq := hq σ13 eσ13
  refine lv_aload_n hx hb1 dX1_add_56 rfl (lv_at hl 1 rfl) ?_
  refine lv_dup hx hb1 dX1_add_57 rfl ?_
  refine hh_geti X h (q := 256) fc_4_0 rfl in_X1_add_X1 kc_4 (by decide) (List.mem_of_getElem? (i := 1) rfl) rfl dX1_add_58 ?_
  refine lv_iconst (v := (1 : Int32)) hx hb1 dX1_add_61 (by decide) ?_
  refine lv_iadd hx hb1 dX1_add_62 ?_
  refine hh_puti X h (q := 256) hc_n fc_4_0 rfl in_X1_add_X1 kc_4 tyX1 tyX1_ok nmX1 (by decide) (List.mem_of_getElem? (i := 1) rfl) rfl rfl rfl rfl dX1_add_63 (fun σ14 H locs eσ14 h => ?_)
  have hq := hq σ14 eσ14
  refine lv_iload hx hb1 dX1_add_66 (lv_at hl 0 rfl) ?_
  exact hh_iret X h hr hlocks hq dX1_add_68
theorem nd_X1_isFree : yX1_isFree.cls = RX1 ∧ yX1_isFree.cls ≠ "java/lang/invoke/MethodHandle" ∧ yX1_isFree.cls ≠ "java/lang/invoke/VarHandle" ∧ (parseMethodDescriptor yX1_isFree.desc).map (fun d => d.parameters.length) = some 1 := by decide +kernel
abbrev rm_X1_isFree : Room := { frames := 0, cells := 0, slots := 0, locals := 0 }
def wp_X1_isFree (x1 : Int32) (σ : hh_S) (Q : Int32 → hh_S → Prop) : Prop := (vp_in x1 24 ∧ ((¬ (hh_rA σ 23 x1) = (-6 : Int32) → (Q (0 : Int32) σ)) ∧ ((hh_rA σ 23 x1) = (-6 : Int32) → (vp_in x1 24 ∧ ((¬ (hh_rA σ 24 x1) = (-6 : Int32) → (Q (0 : Int32) σ)) ∧ ((hh_rA σ 24 x1) = (-6 : Int32) → (Q (1 : Int32) σ)))))))
theorem in_X1_isFree_X1 : ∀ w ∈ u_ws RX1 TX1 7, w ∈ wsX1_isFree := fun w h => List.mem_cons_of_mem _ (List.mem_append_right _ h)
set_option maxHeartbeats 4000000 in
set_option maxRecDepth 100000 in
theorem ad_X1_isFree {D : va_G} (l : Launch) {cy : Nat → ClassId} {ad : Nat → Nat} (J : hh_J hc_Y ad) (x1 : Int32) (σ : hh_S) (Q : Int32 → hh_S → Prop) (hq : wp_X1_isFree x1 σ Q) : Met l yX1_isFree wsX1_isFree rm_X1_isFree (va_Pc [.ref (ad 4), .int x1] (hh_B D hh_cl hc_Y cy ad σ)) (va_Qi Q (hh_B D hh_cl hc_Y cy ad) (hh_A hc_Y ad)) 0 0 (hh_A hc_Y ad) := by
  refine Met.ofW (cc := cX1_isFree) (maxL := 2) (ret := (some .boolean)) (by decide) rfl ?_
  intro p e s m args below meth c s₁ B hml hv
  obtain ⟨hargs, hP0, hK0⟩ := hv
  have hr := B.returns
  have hlocks := B.notSynchronized
  have X : hh_X p m c cX1_isFree 2 s args wsX1_isFree RX1 D hh_cl hc_Y cy ad := ⟨⟨B.exec, B.bytes, hml, findClass_of_methodNamed B.named, atoms_spec (ws := wsX1_isFree) B.pre⟩, hK0, J⟩
  have hx := X.1.1
  have hb1 := X.1.2.1
  have h : hh_H D hh_cl hc_Y cy ad s.heap σ s.heap [] := ⟨hP0, va_S.rf⟩
  subst hargs
  refine hh_entry (vs := [.ref (ad 4), .int x1]) (Nat.le_of_ble_eq_true rfl) (fun ls hl => ?_)
  have hl : lv_has ls 2 [(0, .ref (ad 4)), (1, .int x1)] := hl
  have hq : wp_X1_isFree x1 σ Q := hq
  unfold wp_X1_isFree at hq
  refine lv_aload_n hx hb1 dX1_isFree_0 rfl (lv_at hl 0 rfl) ?_
  refine hh_getr X h fc_4_4 in_X1_isFree_X1 kc_4 (by decide) (List.mem_of_getElem? (i := 1) rfl) rfl dX1_isFree_1 ?_
  refine lv_iload_n hx hb1 dX1_isFree_4 rfl (lv_at hl 1 rfl) ?_
  obtain ⟨h1, hq⟩ := hq
  refine hh_ild X h ac_23 h1 dX1_isFree_5 ?_
  refine lv_bipush (v := (-6 : Int32)) hx hb1 dX1_isFree_6 (by decide) ?_
  refine lv_icmp_ne (tgt := 26) hx hb1 dX1_isFree_8 (by decide) (fun c2 => ?_) (fun c2 => ?_)
  · have hq := hq.1 c2
    refine lv_iconst (v := (0 : Int32)) hx hb1 dX1_isFree_26 (by decide) ?_
    exact hh_zret X h hr hlocks rfl hq dX1_isFree_27
  · have hq := hq.2 c2
    refine lv_aload_n hx hb1 dX1_isFree_11 rfl (lv_at hl 0 rfl) ?_
    refine hh_getr X h fc_4_5 in_X1_isFree_X1 kc_4 (by decide) (List.mem_of_getElem? (i := 2) rfl) rfl dX1_isFree_12 ?_
    refine lv_iload_n hx hb1 dX1_isFree_15 rfl (lv_at hl 1 rfl) ?_
    obtain ⟨h3, hq⟩ := hq
    refine hh_ild X h ac_24 h3 dX1_isFree_16 ?_
    refine lv_bipush (v := (-6 : Int32)) hx hb1 dX1_isFree_17 (by decide) ?_
    refine lv_icmp_ne (tgt := 26) hx hb1 dX1_isFree_19 (by decide) (fun c4 => ?_) (fun c4 => ?_)
    · have hq := hq.1 c4
      refine lv_iconst (v := (0 : Int32)) hx hb1 dX1_isFree_26 (by decide) ?_
      exact hh_zret X h hr hlocks rfl hq dX1_isFree_27
    · have hq := hq.2 c4
      refine lv_iconst (v := (1 : Int32)) hx hb1 dX1_isFree_22 (by decide) ?_
      refine lv_goto (tgt := 27) hx hb1 dX1_isFree_23 (by decide) ?_
      exact hh_zret X h hr hlocks rfl hq dX1_isFree_27
theorem nd_X1_given : yX1_given.cls = RX1 ∧ yX1_given.cls ≠ "java/lang/invoke/MethodHandle" ∧ yX1_given.cls ≠ "java/lang/invoke/VarHandle" ∧ (parseMethodDescriptor yX1_given.desc).map (fun d => d.parameters.length) = some 1 := by decide +kernel
abbrev rm_X1_given : Room := { frames := 0, cells := 0, slots := 0, locals := 0 }
def wp_X1_given (x1 : Int32) (σ : hh_S) (Q : Int32 → hh_S → Prop) : Prop := (vp_in x1 24 ∧ (((hh_rA σ 23 x1) = (-6 : Int32) → (vp_in x1 24 ∧ (Q (hh_rA σ 24 x1) σ))) ∧ (¬ (hh_rA σ 23 x1) = (-6 : Int32) → (vp_in x1 24 ∧ (Q (hh_rA σ 23 x1) σ)))))
theorem in_X1_given_X1 : ∀ w ∈ u_ws RX1 TX1 7, w ∈ wsX1_given := fun w h => List.mem_cons_of_mem _ (List.mem_append_right _ h)
set_option maxHeartbeats 4000000 in
set_option maxRecDepth 100000 in
theorem ad_X1_given {D : va_G} (l : Launch) {cy : Nat → ClassId} {ad : Nat → Nat} (J : hh_J hc_Y ad) (x1 : Int32) (σ : hh_S) (Q : Int32 → hh_S → Prop) (hq : wp_X1_given x1 σ Q) : Met l yX1_given wsX1_given rm_X1_given (va_Pc [.ref (ad 4), .int x1] (hh_B D hh_cl hc_Y cy ad σ)) (va_Qi Q (hh_B D hh_cl hc_Y cy ad) (hh_A hc_Y ad)) 0 0 (hh_A hc_Y ad) := by
  refine Met.ofW (cc := cX1_given) (maxL := 2) (ret := (some .int)) (by decide) rfl ?_
  intro p e s m args below meth c s₁ B hml hv
  obtain ⟨hargs, hP0, hK0⟩ := hv
  have hr := B.returns
  have hlocks := B.notSynchronized
  have X : hh_X p m c cX1_given 2 s args wsX1_given RX1 D hh_cl hc_Y cy ad := ⟨⟨B.exec, B.bytes, hml, findClass_of_methodNamed B.named, atoms_spec (ws := wsX1_given) B.pre⟩, hK0, J⟩
  have hx := X.1.1
  have hb1 := X.1.2.1
  have h : hh_H D hh_cl hc_Y cy ad s.heap σ s.heap [] := ⟨hP0, va_S.rf⟩
  subst hargs
  refine hh_entry (vs := [.ref (ad 4), .int x1]) (Nat.le_of_ble_eq_true rfl) (fun ls hl => ?_)
  have hl : lv_has ls 2 [(0, .ref (ad 4)), (1, .int x1)] := hl
  have hq : wp_X1_given x1 σ Q := hq
  unfold wp_X1_given at hq
  refine lv_aload_n hx hb1 dX1_given_0 rfl (lv_at hl 0 rfl) ?_
  refine hh_getr X h fc_4_4 in_X1_given_X1 kc_4 (by decide) (List.mem_of_getElem? (i := 1) rfl) rfl dX1_given_1 ?_
  refine lv_iload_n hx hb1 dX1_given_4 rfl (lv_at hl 1 rfl) ?_
  obtain ⟨h1, hq⟩ := hq
  refine hh_ild X h ac_23 h1 dX1_given_5 ?_
  refine lv_bipush (v := (-6 : Int32)) hx hb1 dX1_given_6 (by decide) ?_
  refine lv_icmp_eq (tgt := 20) hx hb1 dX1_given_8 (by decide) (fun c2 => ?_) (fun c2 => ?_)
  · have hq := hq.1 c2
    refine lv_aload_n hx hb1 dX1_given_20 rfl (lv_at hl 0 rfl) ?_
    refine hh_getr X h fc_4_5 in_X1_given_X1 kc_4 (by decide) (List.mem_of_getElem? (i := 2) rfl) rfl dX1_given_21 ?_
    refine lv_iload_n hx hb1 dX1_given_24 rfl (lv_at hl 1 rfl) ?_
    obtain ⟨h3, hq⟩ := hq
    refine hh_ild X h ac_24 h3 dX1_given_25 ?_
    exact hh_iret X h hr hlocks hq dX1_given_26
  · have hq := hq.2 c2
    refine lv_aload_n hx hb1 dX1_given_11 rfl (lv_at hl 0 rfl) ?_
    refine hh_getr X h fc_4_4 in_X1_given_X1 kc_4 (by decide) (List.mem_of_getElem? (i := 1) rfl) rfl dX1_given_12 ?_
    refine lv_iload_n hx hb1 dX1_given_15 rfl (lv_at hl 1 rfl) ?_
    obtain ⟨h4, hq⟩ := hq
    refine hh_ild X h ac_23 h4 dX1_given_16 ?_
    refine lv_goto (tgt := 26) hx hb1 dX1_given_17 (by decide) ?_
    exact hh_iret X h hr hlocks hq dX1_given_26
