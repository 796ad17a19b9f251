theorem nd_X6_has : yX6_has.cls = RX6 ∧ yX6_has.cls ≠ "java/lang/invoke/MethodHandle" ∧ yX6_has.cls ≠ "java/lang/invoke/VarHandle" ∧ (parseMethodDescriptor yX6_has.desc).map (fun d => d.parameters.length) = some 1 := by decide +kernel
abbrev rm_X6_has : Room := { frames := 0, cells := 0, slots := 0, locals := 0 }
def wp_X6_has (x1 : Int32) (σ : hh_S) (Q : Int32 → hh_S → Prop) : Prop := ((x1 < 0 → (Q (0 : Int32) σ)) ∧ (¬ x1 < 0 → (((hh_I σ 128) ≤ x1 → (Q (0 : Int32) σ)) ∧ (¬ (hh_I σ 128) ≤ x1 → (Q (1 : Int32) σ)))))
theorem in_X6_has_X6 : ∀ w ∈ u_ws RX6 TX6 5, w ∈ wsX6_has := fun w h => List.mem_cons_of_mem _ (List.mem_append_right _ h)
set_option maxHeartbeats 4000000 in
set_option maxRecDepth 100000 in
theorem ad_X6_has {D : va_G} (l : Launch) {cy : Nat → ClassId} {ad : Nat → Nat} (J : hh_J hc_Y ad) (x1 : Int32) (σ : hh_S) (Q : Int32 → hh_S → Prop) (hq : wp_X6_has x1 σ Q) : Met l yX6_has wsX6_has rm_X6_has (va_Pc [.ref (ad 2), .int x1] (hh_B D hh_cl hc_Y cy ad σ)) (va_Qi Q (hh_B D hh_cl hc_Y cy ad) (hh_A hc_Y ad)) 0 0 (hh_A hc_Y ad) := by
  refine Met.ofW (cc := cX6_has) (maxL := 2) (ret := (some .boolean)) (by decide) rfl ?_
  intro p e s m args below meth c s₁ B hml hv
  obtain ⟨hargs, hP0, hK0⟩ := hv
  have hr := B.returns
  have hlocks := B.notSynchronized
  have X : hh_X p m c cX6_has 2 s args wsX6_has RX6 D hh_cl hc_Y cy ad := ⟨⟨B.exec, B.bytes, hml, findClass_of_methodNamed B.named, atoms_spec (ws := wsX6_has) B.pre⟩, hK0, J⟩
  have hx := X.1.1
  have hb1 := X.1.2.1
  have h : hh_H D hh_cl hc_Y cy ad s.heap σ s.heap [] := ⟨hP0, va_S.rf⟩
  subst hargs
  refine hh_entry (vs := [.ref (ad 2), .int x1]) (Nat.le_of_ble_eq_true rfl) (fun ls hl => ?_)
  have hl : lv_has ls 2 [(0, .ref (ad 2)), (1, .int x1)] := hl
  have hq : wp_X6_has x1 σ Q := hq
  unfold wp_X6_has at hq
  refine lv_iload_n hx hb1 dX6_has_0 rfl (lv_at hl 1 rfl) ?_
  refine lv_if_lt (tgt := 16) hx hb1 dX6_has_1 (by decide) (fun c1 => ?_) (fun c1 => ?_)
  · have hq := hq.1 c1
    refine lv_iconst (v := (0 : Int32)) hx hb1 dX6_has_16 (by decide) ?_
    exact hh_zret X h hr hlocks rfl hq dX6_has_17
  · have hq := hq.2 c1
    refine lv_iload_n hx hb1 dX6_has_4 rfl (lv_at hl 1 rfl) ?_
    refine lv_aload_n hx hb1 dX6_has_5 rfl (lv_at hl 0 rfl) ?_
    refine hh_geti X h (q := 128) fc_2_0 rfl in_X6_has_X6 kc_2 (by decide) (List.mem_of_getElem? (i := 1) rfl) rfl dX6_has_6 ?_
    refine lv_icmp_ge (tgt := 16) hx hb1 dX6_has_9 (by decide) (fun c2 => ?_) (fun c2 => ?_)
    · have hq := hq.1 c2
      refine lv_iconst (v := (0 : Int32)) hx hb1 dX6_has_16 (by decide) ?_
      exact hh_zret X h hr hlocks rfl hq dX6_has_17
    · have hq := hq.2 c2
      refine lv_iconst (v := (1 : Int32)) hx hb1 dX6_has_12 (by decide) ?_
      refine lv_goto (tgt := 17) hx hb1 dX6_has_13 (by decide) ?_
      exact hh_zret X h hr hlocks rfl hq dX6_has_17
theorem nd_X6_named : yX6_named.cls = RX6 ∧ yX6_named.cls ≠ "java/lang/invoke/MethodHandle" ∧ yX6_named.cls ≠ "java/lang/invoke/VarHandle" ∧ (parseMethodDescriptor yX6_named.desc).map (fun d => d.parameters.length) = some 2 := by decide +kernel
abbrev rm_X6_named : Room := { frames := 0, cells := 0, slots := 0, locals := 0 }
def wq_X6_named_2 (x1 : Int32) (x2 : Int32) (Q : Int32 → hh_S → Prop) (K2 : Int32 → hh_S → Prop) (x3 : Int32) (σ : hh_S) : Prop := ((x2 ≤ x3 → (Q (-6 : Int32) σ)) ∧ (¬ x2 ≤ x3 → (vp_in x3 8 ∧ ((¬ (hh_rA σ 15 x3) = x1 → (K2 (x3 + (1 : Int32)) σ)) ∧ ((hh_rA σ 15 x3) = x1 → (Q x3 σ))))))
def wp_X6_named (x1 : Int32) (x2 : Int32) (σ : hh_S) (Q : Int32 → hh_S → Prop) : Prop := (∃ n : Nat, hh_lp1 (wq_X6_named_2 x1 x2 Q) n (0 : Int32) σ)
theorem in_X6_named_X6 : ∀ w ∈ u_ws RX6 TX6 5, w ∈ wsX6_named := fun w h => List.mem_cons_of_mem _ (List.mem_append_right _ h)
set_option maxHeartbeats 4000000 in
set_option maxRecDepth 100000 in
theorem ad_X6_named {D : va_G} (l : Launch) {cy : Nat → ClassId} {ad : Nat → Nat} (J : hh_J hc_Y ad) (x1 : Int32) (x2 : Int32) (σ : hh_S) (Q : Int32 → hh_S → Prop) (hq : wp_X6_named x1 x2 σ Q) : Met l yX6_named wsX6_named rm_X6_named (va_Pc [.ref (ad 3), .int x1, .int x2] (hh_B D hh_cl hc_Y cy ad σ)) (va_Qi Q (hh_B D hh_cl hc_Y cy ad) (hh_A hc_Y ad)) 0 0 (hh_A hc_Y ad) := by
  refine Met.ofW (cc := cX6_named) (maxL := 4) (ret := (some .int)) (by decide) rfl ?_
  intro p e s m args below meth c s₁ B hml hv
  obtain ⟨hargs, hP0, hK0⟩ := hv
  have hr := B.returns
  have hlocks := B.notSynchronized
  have X : hh_X p m c cX6_named 4 s args wsX6_named RX6 D hh_cl hc_Y cy ad := ⟨⟨B.exec, B.bytes, hml, findClass_of_methodNamed B.named, atoms_spec (ws := wsX6_named) B.pre⟩, hK0, J⟩
  have hx := X.1.1
  have hb1 := X.1.2.1
  have h : hh_H D hh_cl hc_Y cy ad s.heap σ s.heap [] := ⟨hP0, va_S.rf⟩
  have lt_2 : ∀ (x1 : Int32) (x2 : Int32) (n : Nat) (x3 : Int32) (σ : hh_S) (H : Heap) (locs : List Loc) (ls : Array Slot), hh_lp1 (wq_X6_named_2 x1 x2 Q) n x3 σ → hh_H D hh_cl hc_Y cy ad s.heap σ H locs → lv_has ls 4 [(0, .ref (ad 3)), (1, .int x1), (2, .int x2), (3, .int x3)] → W p l e (headSpec wsX6_named rm_X6_named).room s m args below meth c H locs 0 0 (MQ below (va_Qi Q (hh_B D hh_cl hc_Y cy ad) (hh_A hc_Y ad)) args s 0 0 (hh_A hc_Y ad)) (F0 m 2 ls []) := by
    intro x1 x2 n
    induction n with
    | zero => intro x3 σ H locs ls hq h hl; exact hq.elim
    | succ n ih =>
      intro x3 σ H locs ls hq h hl
      have hq : wq_X6_named_2 x1 x2 Q (hh_lp1 (wq_X6_named_2 x1 x2 Q) n) x3 σ := hq
      unfold wq_X6_named_2 at hq
      refine lv_iload_n hx hb1 dX6_named_2 rfl (lv_at hl 3 rfl) ?_
      refine lv_iload_n hx hb1 dX6_named_3 rfl (lv_at hl 2 rfl) ?_
      refine lv_icmp_ge (tgt := 25) hx hb1 dX6_named_4 (by decide) (fun c1 => ?_) (fun c1 => ?_)
      · have hq := hq.1 c1
        refine lv_bipush (v := (-6 : Int32)) hx hb1 dX6_named_25 (by decide) ?_
        exact hh_iret X h hr hlocks hq dX6_named_27
      · have hq := hq.2 c1
        refine lv_aload_n hx hb1 dX6_named_7 rfl (lv_at hl 0 rfl) ?_
        refine hh_getr X h fc_3_1 in_X6_named_X6 kc_3 (by decide) (List.mem_of_getElem? (i := 1) rfl) rfl dX6_named_8 ?_
        refine lv_iload_n hx hb1 dX6_named_11 rfl (lv_at hl 3 rfl) ?_
        obtain ⟨h2, hq⟩ := hq
        refine hh_ild X h ac_15 h2 dX6_named_12 ?_
        refine lv_iload_n hx hb1 dX6_named_13 rfl (lv_at hl 1 rfl) ?_
        refine lv_icmp_ne (tgt := 19) hx hb1 dX6_named_14 (by decide) (fun c3 => ?_) (fun c3 => ?_)
        · have hq := hq.1 c3
          refine lv_iinc (v := (x3 + (1 : Int32))) (lv' := [(3, .int (x3 + (1 : Int32))), (0, .ref (ad 3)), (1, .int x1), (2, .int x2)]) hx hb1 dX6_named_19 hl (k := 3) rfl rfl (by decide) rfl (fun ls hl => ?_)
          refine lv_goto (tgt := 2) hx hb1 dX6_named_22 (by decide) ?_
          exact ih (x3 + (1 : Int32)) σ _ _ ls hq h (lv_sub hl [1, 2, 3, 0] rfl)
        · have hq := hq.2 c3
          refine lv_iload_n hx hb1 dX6_named_17 rfl (lv_at hl 3 rfl) ?_
          exact hh_iret X h hr hlocks hq dX6_named_18
  subst hargs
  refine hh_entry (vs := [.ref (ad 3), .int x1, .int x2]) (Nat.le_of_ble_eq_true rfl) (fun ls hl => ?_)
  have hl : lv_has ls 4 [(0, .ref (ad 3)), (1, .int x1), (2, .int x2)] := hl
  have hq : wp_X6_named x1 x2 σ Q := hq
  unfold wp_X6_named at hq
  refine lv_iconst (v := (0 : Int32)) hx hb1 dX6_named_0 (by decide) ?_
  refine lv_istore_n (lv' := [(3, .int (0 : Int32)), (0, .ref (ad 3)), (1, .int x1), (2, .int x2)]) hx hb1 dX6_named_1 rfl hl (by decide) rfl (fun ls hl => ?_)
  obtain ⟨n4, hq⟩ := hq
  exact lt_2 x1 x2 n4 (0 : Int32) σ _ _ ls hq h (lv_sub hl [1, 2, 3, 0] rfl)
theorem nd_X6_add : yX6_add.cls = RX6 ∧ yX6_add.cls ≠ "java/lang/invoke/MethodHandle" ∧ yX6_add.cls ≠ "java/lang/invoke/VarHandle" ∧ (parseMethodDescriptor yX6_add.desc).map (fun d => d.parameters.length) = some 1 := by decide +kernel
abbrev rm_X6_add : Room := { frames := 0, cells := 0, slots := 0, locals := 0 }
def wp_X6_add (x1 : Int32) (σ : hh_S) (Q : hh_S → Prop) : Prop := (vp_in (hh_I σ 192) 8 ∧ ∀ σ2 : hh_S, σ2 = hh_sA σ 15 (hh_I σ 192) x1 → (vp_in (hh_I σ2 192) 8 ∧ ∀ σ4 : hh_S, σ4 = hh_sA σ2 16 (hh_I σ2 192) (2 : Int32) → (vp_in (hh_I σ4 192) 8 ∧ ∀ σ6 : hh_S, σ6 = hh_sA σ4 17 (hh_I σ4 192) (0 : Int32) → (vp_in (hh_I σ6 192) 8 ∧ ∀ σ8 : hh_S, σ8 = hh_sA σ6 18 (hh_I σ6 192) (0 : Int32) → (∀ σ9 : hh_S, σ9 = hh_uI σ8 192 ((hh_I σ8 192) + (1 : Int32)) → (Q σ9))))))
theorem in_X6_add_X6 : ∀ w ∈ u_ws RX6 TX6 5, w ∈ wsX6_add := fun w h => List.mem_cons_of_mem _ (List.mem_append_right _ h)
set_option maxHeartbeats 4000000 in
set_option maxRecDepth 100000 in
theorem ad_X6_add {D : va_G} (l : Launch) {cy : Nat → ClassId} {ad : Nat → Nat} (J : hh_J hc_Y ad) (x1 : Int32) (σ : hh_S) (Q : hh_S → Prop) (hq : wp_X6_add x1 σ Q) : Met l yX6_add wsX6_add rm_X6_add (va_Pc [.ref (ad 3), .int x1] (hh_B D hh_cl hc_Y cy ad σ)) (va_Qv Q (hh_B D hh_cl hc_Y cy ad) (hh_A hc_Y ad)) 0 0 (hh_A hc_Y ad) := by
  refine Met.ofW (cc := cX6_add) (maxL := 2) (ret := none) (by decide) rfl ?_
  intro p e s m args below meth c s₁ B hml hv
  obtain ⟨hargs, hP0, hK0⟩ := hv
  have hr := B.returns
  have hlocks := B.notSynchronized
  have X : hh_X p m c cX6_add 2 s args wsX6_add RX6 D hh_cl hc_Y cy ad := ⟨⟨B.exec, B.bytes, hml, findClass_of_methodNamed B.named, atoms_spec (ws := wsX6_add) B.pre⟩, hK0, J⟩
  have hx := X.1.1
  have hb1 := X.1.2.1
  have h : hh_H D hh_cl hc_Y cy ad s.heap σ s.heap [] := ⟨hP0, va_S.rf⟩
  subst hargs
  refine hh_entry (vs := [.ref (ad 3), .int x1]) (Nat.le_of_ble_eq_true rfl) (fun ls hl => ?_)
  have hl : lv_has ls 2 [(0, .ref (ad 3)), (1, .int x1)] := hl
  have hq : wp_X6_add x1 σ Q := hq
  unfold wp_X6_add at hq
  refine lv_aload_n hx hb1 dX6_add_0 rfl (lv_at hl 0 rfl) ?_
  refine hh_getr X h fc_3_1 in_X6_add_X6 kc_3 (by decide) (List.mem_of_getElem? (i := 1) rfl) rfl dX6_add_1 ?_
  refine lv_aload_n hx hb1 dX6_add_4 rfl (lv_at hl 0 rfl) ?_
  refine hh_geti X h (q := 192) fc_3_0 rfl in_X6_add_X6 kc_3 (by decide) (List.mem_of_getElem? (i := 2) rfl) rfl dX6_add_5 ?_
  refine lv_iload_n hx hb1 dX6_add_8 rfl (lv_at hl 1 rfl) ?_
  obtain ⟨h1, hq⟩ := hq
  refine hh_ist X h ac_15 h1 dX6_add_9 (fun σ2 H locs eσ2 h => ?_)
  have hq := hq σ2 eσ2
  refine lv_aload_n hx hb1 dX6_add_10 rfl (lv_at hl 0 rfl) ?_
  refine hh_getr X h fc_3_2 in_X6_add_X6 kc_3 (by decide) (List.mem_of_getElem? (i := 3) rfl) rfl dX6_add_11 ?_
  refine lv_aload_n hx hb1 dX6_add_14 rfl (lv_at hl 0 rfl) ?_
  refine hh_geti X h (q := 192) fc_3_0 rfl in_X6_add_X6 kc_3 (by decide) (List.mem_of_getElem? (i := 2) rfl) rfl dX6_add_15 ?_
  refine lv_iconst (v := (2 : Int32)) hx hb1 dX6_add_18 (by decide) ?_
  obtain ⟨h3, hq⟩ := hq
  refine hh_ist X h ac_16 h3 dX6_add_19 (fun σ4 H locs eσ4 h => ?_)
  have hq := hq σ4 eσ4
  refine lv_aload_n hx hb1 dX6_add_20 rfl (lv_at hl 0 rfl) ?_
  refine hh_getr X h fc_3_3 in_X6_add_X6 kc_3 (by decide) (List.mem_of_getElem? (i := 4) rfl) rfl dX6_add_21 ?_
  refine lv_aload_n hx hb1 dX6_add_24 rfl (lv_at hl 0 rfl) ?_
  refine hh_geti X h (q := 192) fc_3_0 rfl in_X6_add_X6 kc_3 (by decide) (List.mem_of_getElem? (i := 2) rfl) rfl dX6_add_25 ?_
  refine lv_iconst (v := (0 : Int32)) hx hb1 dX6_add_28 (by decide) ?_
  obtain ⟨h5, hq⟩ := hq
  refine hh_ist X h ac_17 h5 dX6_add_29 (fun σ6 H locs eσ6 h => ?_)
  have hq := hq σ6 eσ6
  refine lv_aload_n hx hb1 dX6_add_30 rfl (lv_at hl 0 rfl) ?_
  refine hh_getr X h fc_3_4 in_X6_add_X6 kc_3 (by decide) (List.mem_of_getElem? (i := 5) rfl) rfl dX6_add_31 ?_
  refine lv_aload_n hx hb1 dX6_add_34 rfl (lv_at hl 0 rfl) ?_
  refine hh_geti X h (q := 192) fc_3_0 rfl in_X6_add_X6 kc_3 (by decide) (List.mem_of_getElem? (i := 2) rfl) rfl dX6_add_35 ?_
  refine lv_iconst (v := (0 : Int32)) hx hb1 dX6_add_38 (by decide) ?_
  obtain ⟨h7, hq⟩ := hq
  refine hh_ist X h ac_18 h7 dX6_add_39 (fun σ8 H locs eσ8 h => ?_)
  have hq := hq σ8 eσ8
  refine lv_aload_n hx hb1 dX6_add_40 rfl (lv_at hl 0 rfl) ?_
  refine lv_dup hx hb1 dX6_add_41 rfl ?_
  refine hh_geti X h (q := 192) fc_3_0 rfl in_X6_add_X6 kc_3 (by decide) (List.mem_of_getElem? (i := 2) rfl) rfl dX6_add_42 ?_
  refine lv_iconst (v := (1 : Int32)) hx hb1 dX6_add_45 (by decide) ?_
  refine lv_iadd hx hb1 dX6_add_46 ?_
  refine hh_puti X h (q := 192) hc_n fc_3_0 rfl in_X6_add_X6 kc_3 tyX6 tyX6_ok nmX6 (by decide) (List.mem_of_getElem? (i := 2) rfl) rfl rfl rfl rfl dX6_add_47 (fun σ9 H locs eσ9 h => ?_)
  have hq := hq σ9 eσ9
  exact hh_vret X h hr hlocks hq dX6_add_50
theorem nd_X6_copy : yX6_copy.cls = RX6 ∧ yX6_copy.cls ≠ "java/lang/invoke/MethodHandle" ∧ yX6_copy.cls ≠ "java/lang/invoke/VarHandle" ∧ (parseMethodDescriptor yX6_copy.desc).map (fun d => d.parameters.length) = some 1 := by decide +kernel
abbrev rm_X6_copy : Room := { frames := 1, cells := 0, slots := 0, locals := 40 }
def wp_X6_copy (σ : hh_S) (Q : hh_S → Prop) : Prop := (∀ σ1 : hh_S, σ1 = hh_uI σ 128 (hh_I σ 192) → (∀ σ2 : hh_S, σ2 = hh_uA σ1 11 (va_cpy (σ1.2.2.1 15) (σ1.2.2.1 11) ((0 : Int32)).toNatClampNeg ((0 : Int32)).toNatClampNeg ((8 : Int32)).toNatClampNeg) → (∀ σ3 : hh_S, σ3 = hh_uA σ2 12 (va_cpy (σ2.2.2.1 16) (σ2.2.2.1 12) ((0 : Int32)).toNatClampNeg ((0 : Int32)).toNatClampNeg ((8 : Int32)).toNatClampNeg) → (∀ σ4 : hh_S, σ4 = hh_uA σ3 13 (va_cpy (σ3.2.2.1 17) (σ3.2.2.1 13) ((0 : Int32)).toNatClampNeg ((0 : Int32)).toNatClampNeg ((8 : Int32)).toNatClampNeg) → (∀ σ5 : hh_S, σ5 = hh_uA σ4 14 (va_cpy (σ4.2.2.1 18) (σ4.2.2.1 14) ((0 : Int32)).toNatClampNeg ((0 : Int32)).toNatClampNeg ((8 : Int32)).toNatClampNeg) → (Q σ5))))))
theorem in_X6_copy_X6 : ∀ w ∈ u_ws RX6 TX6 5, w ∈ wsX6_copy := fun w h => List.mem_cons_of_mem _ (List.mem_append_right _ h)
set_option maxHeartbeats 4000000 in
set_option maxRecDepth 100000 in
theorem ad_X6_copy {D : va_G} (l : Launch) {cy : Nat → ClassId} {ad : Nat → Nat} (J : hh_J hc_Y ad) (σ : hh_S) (Q : hh_S → Prop) (hq : wp_X6_copy σ Q) : Met l yX6_copy wsX6_copy rm_X6_copy (va_Pc [.ref (ad 2), .ref (ad 3)] (hh_B D hh_cl hc_Y cy ad σ)) (va_Qv Q (hh_B D hh_cl hc_Y cy ad) (hh_A hc_Y ad)) 0 0 (hh_A hc_Y ad) := by
  refine Met.ofW (cc := cX6_copy) (maxL := 2) (ret := none) (by decide) rfl ?_
  intro p e s m args below meth c s₁ B hml hv
  obtain ⟨hargs, hP0, hK0⟩ := hv
  have hr := B.returns
  have hlocks := B.notSynchronized
  have X : hh_X p m c cX6_copy 2 s args wsX6_copy RX6 D hh_cl hc_Y cy ad := ⟨⟨B.exec, B.bytes, hml, findClass_of_methodNamed B.named, atoms_spec (ws := wsX6_copy) B.pre⟩, hK0, J⟩
  have hx := X.1.1
  have hb1 := X.1.2.1
  have h : hh_H D hh_cl hc_Y cy ad s.heap σ s.heap [] := ⟨hP0, va_S.rf⟩
  subst hargs
  refine hh_entry (vs := [.ref (ad 2), .ref (ad 3)]) (Nat.le_of_ble_eq_true rfl) (fun ls hl => ?_)
  have hl : lv_has ls 2 [(0, .ref (ad 2)), (1, .ref (ad 3))] := hl
  have hq : wp_X6_copy σ Q := hq
  unfold wp_X6_copy at hq
  refine lv_aload_n hx hb1 dX6_copy_0 rfl (lv_at hl 0 rfl) ?_
  refine lv_aload_n hx hb1 dX6_copy_1 rfl (lv_at hl 1 rfl) ?_
  refine hh_geti X h (q := 192) fc_3_0 rfl in_X6_copy_X6 kc_3 (by decide) (List.mem_of_getElem? (i := 1) rfl) rfl dX6_copy_2 ?_
  refine hh_puti X h (q := 128) hc_n fc_2_0 rfl in_X6_copy_X6 kc_2 tyX6 tyX6_ok nmX6 (by decide) (List.mem_of_getElem? (i := 1) rfl) rfl rfl rfl rfl dX6_copy_5 (fun σ1 H locs eσ1 h => ?_)
  have hq := hq σ1 eσ1
  refine lv_aload_n hx hb1 dX6_copy_8 rfl (lv_at hl 1 rfl) ?_
  refine hh_getr X h fc_3_1 in_X6_copy_X6 kc_3 (by decide) (List.mem_of_getElem? (i := 2) rfl) rfl dX6_copy_9 ?_
  refine lv_iconst (v := (0 : Int32)) hx hb1 dX6_copy_12 (by decide) ?_
  refine lv_aload_n hx hb1 dX6_copy_13 rfl (lv_at hl 0 rfl) ?_
  refine hh_getr X h fc_2_1 in_X6_copy_X6 kc_2 (by decide) (List.mem_of_getElem? (i := 2) rfl) rfl dX6_copy_14 ?_
  refine lv_iconst (v := (0 : Int32)) hx hb1 dX6_copy_17 (by decide) ?_
  refine lv_bipush (v := (8 : Int32)) hx hb1 dX6_copy_18 (by decide) ?_
  refine hh_cpy X h ac_15 ac_11 hl.1 (X.1.2.2.2.2 _ (List.mem_of_getElem? (i := 3) rfl)) (X.1.2.2.2.2 _ (List.mem_of_getElem? (i := 4) rfl)) (X.1.2.2.2.2 _ (List.mem_of_getElem? (i := 5) rfl)) (X.1.2.2.2.2 _ (List.mem_of_getElem? (i := 6) rfl)) (by decide) (by decide) (by decide) (by decide) (by decide) (Nat.le_of_ble_eq_true rfl) (by decide) dX6_copy_20 (fun σ2 H locs eσ2 h => ?_)
  have hq := hq σ2 eσ2
  refine lv_aload_n hx hb1 dX6_copy_23 rfl (lv_at hl 1 rfl) ?_
  refine hh_getr X h fc_3_2 in_X6_copy_X6 kc_3 (by decide) (List.mem_of_getElem? (i := 7) rfl) rfl dX6_copy_24 ?_
  refine lv_iconst (v := (0 : Int32)) hx hb1 dX6_copy_27 (by decide) ?_
  refine lv_aload_n hx hb1 dX6_copy_28 rfl (lv_at hl 0 rfl) ?_
  refine hh_getr X h fc_2_2 in_X6_copy_X6 kc_2 (by decide) (List.mem_of_getElem? (i := 7) rfl) rfl dX6_copy_29 ?_
  refine lv_iconst (v := (0 : Int32)) hx hb1 dX6_copy_32 (by decide) ?_
  refine lv_bipush (v := (8 : Int32)) hx hb1 dX6_copy_33 (by decide) ?_
  refine hh_cpy X h ac_16 ac_12 hl.1 (X.1.2.2.2.2 _ (List.mem_of_getElem? (i := 3) rfl)) (X.1.2.2.2.2 _ (List.mem_of_getElem? (i := 4) rfl)) (X.1.2.2.2.2 _ (List.mem_of_getElem? (i := 5) rfl)) (X.1.2.2.2.2 _ (List.mem_of_getElem? (i := 6) rfl)) (by decide) (by decide) (by decide) (by decide) (by decide) (Nat.le_of_ble_eq_true rfl) (by decide) dX6_copy_35 (fun σ3 H locs eσ3 h => ?_)
  have hq := hq σ3 eσ3
  refine lv_aload_n hx hb1 dX6_copy_38 rfl (lv_at hl 1 rfl) ?_
  refine hh_getr X h fc_3_3 in_X6_copy_X6 kc_3 (by decide) (List.mem_of_getElem? (i := 8) rfl) rfl dX6_copy_39 ?_
  refine lv_iconst (v := (0 : Int32)) hx hb1 dX6_copy_42 (by decide) ?_
  refine lv_aload_n hx hb1 dX6_copy_43 rfl (lv_at hl 0 rfl) ?_
  refine hh_getr X h fc_2_3 in_X6_copy_X6 kc_2 (by decide) (List.mem_of_getElem? (i := 8) rfl) rfl dX6_copy_44 ?_
  refine lv_iconst (v := (0 : Int32)) hx hb1 dX6_copy_47 (by decide) ?_
  refine lv_bipush (v := (8 : Int32)) hx hb1 dX6_copy_48 (by decide) ?_
  refine hh_cpy X h ac_17 ac_13 hl.1 (X.1.2.2.2.2 _ (List.mem_of_getElem? (i := 3) rfl)) (X.1.2.2.2.2 _ (List.mem_of_getElem? (i := 4) rfl)) (X.1.2.2.2.2 _ (List.mem_of_getElem? (i := 5) rfl)) (X.1.2.2.2.2 _ (List.mem_of_getElem? (i := 6) rfl)) (by decide) (by decide) (by decide) (by decide) (by decide) (Nat.le_of_ble_eq_true rfl) (by decide) dX6_copy_50 (fun σ4 H locs eσ4 h => ?_)
  have hq := hq σ4 eσ4
  refine lv_aload_n hx hb1 dX6_copy_53 rfl (lv_at hl 1 rfl) ?_
  refine hh_getr X h fc_3_4 in_X6_copy_X6 kc_3 (by decide) (List.mem_of_getElem? (i := 9) rfl) rfl dX6_copy_54 ?_
  refine lv_iconst (v := (0 : Int32)) hx hb1 dX6_copy_57 (by decide) ?_
  refine lv_aload_n hx hb1 dX6_copy_58 rfl (lv_at hl 0 rfl) ?_
  refine hh_getr X h fc_2_4 in_X6_copy_X6 kc_2 (by decide) (List.mem_of_getElem? (i := 9) rfl) rfl dX6_copy_59 ?_
  refine lv_iconst (v := (0 : Int32)) hx hb1 dX6_copy_62 (by decide) ?_
  refine lv_bipush (v := (8 : Int32)) hx hb1 dX6_copy_63 (by decide) ?_
  refine hh_cpy X h ac_18 ac_14 hl.1 (X.1.2.2.2.2 _ (List.mem_of_getElem? (i := 3) rfl)) (X.1.2.2.2.2 _ (List.mem_of_getElem? (i := 4) rfl)) (X.1.2.2.2.2 _ (List.mem_of_getElem? (i := 5) rfl)) (X.1.2.2.2.2 _ (List.mem_of_getElem? (i := 6) rfl)) (by decide) (by decide) (by decide) (by decide) (by decide) (Nat.le_of_ble_eq_true rfl) (by decide) dX6_copy_65 (fun σ5 H locs eσ5 h => ?_)
  have hq := hq σ5 eσ5
  exact hh_vret X h hr hlocks hq dX6_copy_68
