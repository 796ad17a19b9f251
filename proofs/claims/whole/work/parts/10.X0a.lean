theorem nd_X0_has : yX0_has.cls = RX0 ∧ yX0_has.cls ≠ "java/lang/invoke/MethodHandle" ∧ yX0_has.cls ≠ "java/lang/invoke/VarHandle" ∧ (parseMethodDescriptor yX0_has.desc).map (fun d => d.parameters.length) = some 1 := by decide +kernel
abbrev rm_X0_has : Room := { frames := 0, cells := 0, slots := 0, locals := 0 }
def wp_X0_has (x1 : Int32) (σ : hh_S) (Q : Int32 → hh_S → Prop) : Prop := ((x1 < 0 → (Q (0 : Int32) σ)) ∧ (¬ x1 < 0 → (((hh_I σ 320) ≤ x1 → (Q (0 : Int32) σ)) ∧ (¬ (hh_I σ 320) ≤ x1 → (Q (1 : Int32) σ)))))
theorem in_X0_has_X0 : ∀ w ∈ u_ws RX0 TX0 4, w ∈ wsX0_has := fun w h => List.mem_cons_of_mem _ (List.mem_append_right _ h)
set_option maxHeartbeats 4000000 in
set_option maxRecDepth 100000 in
theorem ad_X0_has {D : va_G} (l : Launch) {cy : Nat → ClassId} {ad : Nat → Nat} (J : hh_J hc_Y ad) (x1 : Int32) (σ : hh_S) (Q : Int32 → hh_S → Prop) (hq : wp_X0_has x1 σ Q) : Met l yX0_has wsX0_has rm_X0_has (va_Pc [.ref (ad 5), .int x1] (hh_B D hh_cl hc_Y cy ad σ)) (va_Qi Q (hh_B D hh_cl hc_Y cy ad) (hh_A hc_Y ad)) 0 0 (hh_A hc_Y ad) := by
  refine Met.ofW (cc := cX0_has) (maxL := 2) (ret := (some .boolean)) (by decide) rfl ?_
  intro p e s m args below meth c s₁ B hml hv
  obtain ⟨hargs, hP0, hK0⟩ := hv
  have hr := B.returns
  have hlocks := B.notSynchronized
  have X : hh_X p m c cX0_has 2 s args wsX0_has RX0 D hh_cl hc_Y cy ad := ⟨⟨B.exec, B.bytes, hml, findClass_of_methodNamed B.named, atoms_spec (ws := wsX0_has) B.pre⟩, hK0, J⟩
  have hx := X.1.1
  have hb1 := X.1.2.1
  have h : hh_H D hh_cl hc_Y cy ad s.heap σ s.heap [] := ⟨hP0, va_S.rf⟩
  subst hargs
  refine hh_entry (vs := [.ref (ad 5), .int x1]) (Nat.le_of_ble_eq_true rfl) (fun ls hl => ?_)
  have hl : lv_has ls 2 [(0, .ref (ad 5)), (1, .int x1)] := hl
  have hq : wp_X0_has x1 σ Q := hq
  unfold wp_X0_has at hq
  refine lv_iload_n hx hb1 dX0_has_0 rfl (lv_at hl 1 rfl) ?_
  refine lv_if_lt (tgt := 16) hx hb1 dX0_has_1 (by decide) (fun c1 => ?_) (fun c1 => ?_)
  · have hq := hq.1 c1
    refine lv_iconst (v := (0 : Int32)) hx hb1 dX0_has_16 (by decide) ?_
    exact hh_zret X h hr hlocks rfl hq dX0_has_17
  · have hq := hq.2 c1
    refine lv_iload_n hx hb1 dX0_has_4 rfl (lv_at hl 1 rfl) ?_
    refine lv_aload_n hx hb1 dX0_has_5 rfl (lv_at hl 0 rfl) ?_
    refine hh_geti X h (q := 320) fc_5_0 rfl in_X0_has_X0 kc_5 (by decide) (List.mem_of_getElem? (i := 1) rfl) rfl dX0_has_6 ?_
    refine lv_icmp_ge (tgt := 16) hx hb1 dX0_has_9 (by decide) (fun c2 => ?_) (fun c2 => ?_)
    · have hq := hq.1 c2
      refine lv_iconst (v := (0 : Int32)) hx hb1 dX0_has_16 (by decide) ?_
      exact hh_zret X h hr hlocks rfl hq dX0_has_17
    · have hq := hq.2 c2
      refine lv_iconst (v := (1 : Int32)) hx hb1 dX0_has_12 (by decide) ?_
      refine lv_goto (tgt := 17) hx hb1 dX0_has_13 (by decide) ?_
      exact hh_zret X h hr hlocks rfl hq dX0_has_17
theorem nd_X0_add : yX0_add.cls = RX0 ∧ yX0_add.cls ≠ "java/lang/invoke/MethodHandle" ∧ yX0_add.cls ≠ "java/lang/invoke/VarHandle" ∧ (parseMethodDescriptor yX0_add.desc).map (fun d => d.parameters.length) = some 0 := by decide +kernel
abbrev rm_X0_add : Room := { frames := 0, cells := 0, slots := 0, locals := 0 }
def wq_X0_add_21 (x1 : Int32) (Q : Int32 → hh_S → Prop) (K21 : Int32 → hh_S → Prop) (x2 : Int32) (σ : hh_S) : Prop := (((24 : Int32) ≤ x2 → (∀ σ2 : hh_S, σ2 = hh_uI σ 320 ((hh_I σ 320) + (1 : Int32)) → (Q x1 σ2))) ∧ (¬ (24 : Int32) ≤ x2 → (vp_in x1 10 ∧ (vp_in x2 24 ∧ ∀ σ5 : hh_S, σ5 = hh_sA σ (45 + (x1).toNatClampNeg) x2 (-6 : Int32) → (K21 (x2 + (1 : Int32)) σ5)))))
def wp_X0_add (σ : hh_S) (Q : Int32 → hh_S → Prop) : Prop := (∀ v6 : Int32, v6 = (hh_I σ 320) → (vp_in v6 10 ∧ ∀ σ8 : hh_S, σ8 = hh_sA σ 26 v6 (vp_nar .boolean (0 : Int32)) → (vp_in v6 10 ∧ ∀ σ10 : hh_S, σ10 = hh_sA σ8 27 v6 (0 : Int32) → (∃ n : Nat, hh_lp1 (wq_X0_add_21 v6 Q) n (0 : Int32) σ10))))
theorem in_X0_add_X0 : ∀ w ∈ u_ws RX0 TX0 4, w ∈ wsX0_add := fun w h => List.mem_cons_of_mem _ (List.mem_append_right _ h)
set_option maxHeartbeats 4000000 in
set_option maxRecDepth 100000 in
theorem ad_X0_add {D : va_G} (l : Launch) {cy : Nat → ClassId} {ad : Nat → Nat} (J : hh_J hc_Y ad) (σ : hh_S) (Q : Int32 → hh_S → Prop) (hq : wp_X0_add σ Q) : Met l yX0_add wsX0_add rm_X0_add (va_Pc [.ref (ad 5)] (hh_B D hh_cl hc_Y cy ad σ)) (va_Qi Q (hh_B D hh_cl hc_Y cy ad) (hh_A hc_Y ad)) 0 0 (hh_A hc_Y ad) := by
  refine Met.ofW (cc := cX0_add) (maxL := 3) (ret := (some .int)) (by decide) rfl ?_
  intro p e s m args below meth c s₁ B hml hv
  obtain ⟨hargs, hP0, hK0⟩ := hv
  have hr := B.returns
  have hlocks := B.notSynchronized
  have X : hh_X p m c cX0_add 3 s args wsX0_add RX0 D hh_cl hc_Y cy ad := ⟨⟨B.exec, B.bytes, hml, findClass_of_methodNamed B.named, atoms_spec (ws := wsX0_add) B.pre⟩, hK0, J⟩
  have hx := X.1.1
  have hb1 := X.1.2.1
  have h : hh_H D hh_cl hc_Y cy ad s.heap σ s.heap [] := ⟨hP0, va_S.rf⟩
  have lt_21 : ∀ (x1 : Int32) (n : Nat) (x2 : Int32) (σ : hh_S) (H : Heap) (locs : List Loc) (ls : Array Slot), hh_lp1 (wq_X0_add_21 x1 Q) n x2 σ → hh_H D hh_cl hc_Y cy ad s.heap σ H locs → lv_has ls 3 [(0, .ref (ad 5)), (1, .int x1), (2, .int x2)] → W p l e (headSpec wsX0_add rm_X0_add).room s m args below meth c H locs 0 0 (MQ below (va_Qi Q (hh_B D hh_cl hc_Y cy ad) (hh_A hc_Y ad)) args s 0 0 (hh_A hc_Y ad)) (F0 m 21 ls []) := by
    intro x1 n
    induction n with
    | zero => intro x2 σ H locs ls hq h hl; exact hq.elim
    | succ n ih =>
      intro x2 σ H locs ls hq h hl
      have hq : wq_X0_add_21 x1 Q (hh_lp1 (wq_X0_add_21 x1 Q) n) x2 σ := hq
      unfold wq_X0_add_21 at hq
      refine lv_iload_n hx hb1 dX0_add_21 rfl (lv_at hl 2 rfl) ?_
      refine lv_bipush (v := (24 : Int32)) hx hb1 dX0_add_22 (by decide) ?_
      refine lv_icmp_ge (tgt := 43) hx hb1 dX0_add_24 (by decide) (fun c1 => ?_) (fun c1 => ?_)
      · have hq := hq.1 c1
        refine lv_aload_n hx hb1 dX0_add_43 rfl (lv_at hl 0 rfl) ?_
        refine lv_dup hx hb1 dX0_add_44 rfl ?_
        refine hh_geti X h (q := 320) fc_5_0 rfl in_X0_add_X0 kc_5 (by decide) (List.mem_of_getElem? (i := 1) rfl) rfl dX0_add_45 ?_
        refine lv_iconst (v := (1 : Int32)) hx hb1 dX0_add_48 (by decide) ?_
        refine lv_iadd hx hb1 dX0_add_49 ?_
        refine hh_puti X h (q := 320) hc_n fc_5_0 rfl in_X0_add_X0 kc_5 tyX0 tyX0_ok nmX0 (by decide) (List.mem_of_getElem? (i := 1) rfl) rfl rfl rfl rfl dX0_add_50 (fun σ2 H locs eσ2 h => ?_)
        have hq := hq σ2 eσ2
        refine lv_iload_n hx hb1 dX0_add_53 rfl (lv_at hl 1 rfl) ?_
        exact hh_iret X h hr hlocks hq dX0_add_54
      · have hq := hq.2 c1
        refine lv_aload_n hx hb1 dX0_add_27 rfl (lv_at hl 0 rfl) ?_
        refine hh_getr X h fc_5_3 in_X0_add_X0 kc_5 (by decide) (List.mem_of_getElem? (i := 4) rfl) rfl dX0_add_28 ?_
        refine lv_iload_n hx hb1 dX0_add_31 rfl (lv_at hl 1 rfl) ?_
        obtain ⟨h3, hq⟩ := hq
        refine hh_ald X h ac_28 h3 dX0_add_32 ?_
        refine lv_iload_n hx hb1 dX0_add_33 rfl (lv_at hl 2 rfl) ?_
        refine lv_bipush (v := (-6 : Int32)) hx hb1 dX0_add_34 (by decide) ?_
        obtain ⟨h4, hq⟩ := hq
        refine hh_ist X h (ar_said h3) h4 dX0_add_36 (fun σ5 H locs eσ5 h => ?_)
        have hq := hq σ5 eσ5
        refine lv_iinc (v := (x2 + (1 : Int32))) (lv' := [(2, .int (x2 + (1 : Int32))), (0, .ref (ad 5)), (1, .int x1)]) hx hb1 dX0_add_37 hl (k := 2) rfl rfl (by decide) rfl (fun ls hl => ?_)
        refine lv_goto (tgt := 21) hx hb1 dX0_add_40 (by decide) ?_
        exact ih (x2 + (1 : Int32)) σ5 _ _ ls hq h (lv_sub hl [1, 2, 0] rfl)
  subst hargs
  refine hh_entry (vs := [.ref (ad 5)]) (Nat.le_of_ble_eq_true rfl) (fun ls hl => ?_)
  have hl : lv_has ls 3 [(0, .ref (ad 5))] := hl
  have hq : wp_X0_add σ Q := hq
  unfold wp_X0_add at hq
  refine lv_aload_n hx hb1 dX0_add_0 rfl (lv_at hl 0 rfl) ?_
  refine hh_geti X h (q := 320) fc_5_0 rfl in_X0_add_X0 kc_5 (by decide) (List.mem_of_getElem? (i := 1) rfl) rfl dX0_add_1 ?_
  refine lv_topi (fun v6 ev6 => ?_)
  have hq := hq v6 ev6
  refine lv_istore_n (lv' := [(1, .int v6), (0, .ref (ad 5))]) hx hb1 dX0_add_4 rfl hl (by decide) rfl (fun ls hl => ?_)
  refine lv_aload_n hx hb1 dX0_add_5 rfl (lv_at hl 1 rfl) ?_
  refine hh_getr X h fc_5_1 in_X0_add_X0 kc_5 (by decide) (List.mem_of_getElem? (i := 2) rfl) rfl dX0_add_6 ?_
  refine lv_iload_n hx hb1 dX0_add_9 rfl (lv_at hl 0 rfl) ?_
  refine lv_iconst (v := (0 : Int32)) hx hb1 dX0_add_10 (by decide) ?_
  obtain ⟨h7, hq⟩ := hq
  refine hh_zst X h ac_26 h7 dX0_add_11 (fun σ8 H locs eσ8 h => ?_)
  have hq := hq σ8 eσ8
  refine lv_aload_n hx hb1 dX0_add_12 rfl (lv_at hl 1 rfl) ?_
  refine hh_getr X h fc_5_2 in_X0_add_X0 kc_5 (by decide) (List.mem_of_getElem? (i := 3) rfl) rfl dX0_add_13 ?_
  refine lv_iload_n hx hb1 dX0_add_16 rfl (lv_at hl 0 rfl) ?_
  refine lv_iconst (v := (0 : Int32)) hx hb1 dX0_add_17 (by decide) ?_
  obtain ⟨h9, hq⟩ := hq
  refine hh_ist X h ac_27 h9 dX0_add_18 (fun σ10 H locs eσ10 h => ?_)
  have hq := hq σ10 eσ10
  refine lv_iconst (v := (0 : Int32)) hx hb1 dX0_add_19 (by decide) ?_
  refine lv_istore_n (lv' := [(2, .int (0 : Int32)), (1, .int v6), (0, .ref (ad 5))]) hx hb1 dX0_add_20 rfl hl (by decide) rfl (fun ls hl => ?_)
  obtain ⟨n11, hq⟩ := hq
  exact lt_21 v6 n11 (0 : Int32) σ10 _ _ ls hq h (lv_sub hl [2, 1, 0] rfl)
theorem nd_X0_counts : yX0_counts.cls = RX0 ∧ yX0_counts.cls ≠ "java/lang/invoke/MethodHandle" ∧ yX0_counts.cls ≠ "java/lang/invoke/VarHandle" ∧ (parseMethodDescriptor yX0_counts.desc).map (fun d => d.parameters.length) = some 2 := by decide +kernel
abbrev rm_X0_counts : Room := { frames := 0, cells := 0, slots := 0, locals := 0 }
def wp_X0_counts (x1 : Int32) (x2 : Int32) (σ : hh_S) (Q : Int32 → hh_S → Prop) : Prop := (vp_in x1 10 ∧ ((¬ (hh_rA σ 26 x1) = 0 → (Q (0 : Int32) σ)) ∧ ((hh_rA σ 26 x1) = 0 → (vp_in x1 10 ∧ (vp_in x2 24 ∧ (((hh_rA σ (45 + (x1).toNatClampNeg) x2) = (-6 : Int32) → (Q (0 : Int32) σ)) ∧ (¬ (hh_rA σ (45 + (x1).toNatClampNeg) x2) = (-6 : Int32) → (Q (1 : Int32) σ))))))))
theorem in_X0_counts_X0 : ∀ w ∈ u_ws RX0 TX0 4, w ∈ wsX0_counts := fun w h => List.mem_cons_of_mem _ (List.mem_append_right _ h)
set_option maxHeartbeats 4000000 in
set_option maxRecDepth 100000 in
theorem ad_X0_counts {D : va_G} (l : Launch) {cy : Nat → ClassId} {ad : Nat → Nat} (J : hh_J hc_Y ad) (x1 : Int32) (x2 : Int32) (σ : hh_S) (Q : Int32 → hh_S → Prop) (hq : wp_X0_counts x1 x2 σ Q) : Met l yX0_counts wsX0_counts rm_X0_counts (va_Pc [.ref (ad 5), .int x1, .int x2] (hh_B D hh_cl hc_Y cy ad σ)) (va_Qi Q (hh_B D hh_cl hc_Y cy ad) (hh_A hc_Y ad)) 0 0 (hh_A hc_Y ad) := by
  refine Met.ofW (cc := cX0_counts) (maxL := 3) (ret := (some .boolean)) (by decide) rfl ?_
  intro p e s m args below meth c s₁ B hml hv
  obtain ⟨hargs, hP0, hK0⟩ := hv
  have hr := B.returns
  have hlocks := B.notSynchronized
  have X : hh_X p m c cX0_counts 3 s args wsX0_counts RX0 D hh_cl hc_Y cy ad := ⟨⟨B.exec, B.bytes, hml, findClass_of_methodNamed B.named, atoms_spec (ws := wsX0_counts) B.pre⟩, hK0, J⟩
  have hx := X.1.1
  have hb1 := X.1.2.1
  have h : hh_H D hh_cl hc_Y cy ad s.heap σ s.heap [] := ⟨hP0, va_S.rf⟩
  subst hargs
  refine hh_entry (vs := [.ref (ad 5), .int x1, .int x2]) (Nat.le_of_ble_eq_true rfl) (fun ls hl => ?_)
  have hl : lv_has ls 3 [(0, .ref (ad 5)), (1, .int x1), (2, .int x2)] := hl
  have hq : wp_X0_counts x1 x2 σ Q := hq
  unfold wp_X0_counts at hq
  refine lv_aload_n hx hb1 dX0_counts_0 rfl (lv_at hl 0 rfl) ?_
  refine hh_getr X h fc_5_1 in_X0_counts_X0 kc_5 (by decide) (List.mem_of_getElem? (i := 1) rfl) rfl dX0_counts_1 ?_
  refine lv_iload_n hx hb1 dX0_counts_4 rfl (lv_at hl 1 rfl) ?_
  obtain ⟨h1, hq⟩ := hq
  refine hh_zld X h ac_26 h1 dX0_counts_5 ?_
  refine lv_if_ne (tgt := 26) hx hb1 dX0_counts_6 (by decide) (fun c2 => ?_) (fun c2 => ?_)
  · have hq := hq.1 c2
    refine lv_iconst (v := (0 : Int32)) hx hb1 dX0_counts_26 (by decide) ?_
    exact hh_zret X h hr hlocks rfl hq dX0_counts_27
  · have hq := hq.2 c2
    refine lv_aload_n hx hb1 dX0_counts_9 rfl (lv_at hl 0 rfl) ?_
    refine hh_getr X h fc_5_3 in_X0_counts_X0 kc_5 (by decide) (List.mem_of_getElem? (i := 2) rfl) rfl dX0_counts_10 ?_
    refine lv_iload_n hx hb1 dX0_counts_13 rfl (lv_at hl 1 rfl) ?_
    obtain ⟨h3, hq⟩ := hq
    refine hh_ald X h ac_28 h3 dX0_counts_14 ?_
    refine lv_iload_n hx hb1 dX0_counts_15 rfl (lv_at hl 2 rfl) ?_
    obtain ⟨h4, hq⟩ := hq
    refine hh_ild X h (ar_said h3) h4 dX0_counts_16 ?_
    refine lv_bipush (v := (-6 : Int32)) hx hb1 dX0_counts_17 (by decide) ?_
    refine lv_icmp_eq (tgt := 26) hx hb1 dX0_counts_19 (by decide) (fun c5 => ?_) (fun c5 => ?_)
    · have hq := hq.1 c5
      refine lv_iconst (v := (0 : Int32)) hx hb1 dX0_counts_26 (by decide) ?_
      exact hh_zret X h hr hlocks rfl hq dX0_counts_27
    · have hq := hq.2 c5
      refine lv_iconst (v := (1 : Int32)) hx hb1 dX0_counts_22 (by decide) ?_
      refine lv_goto (tgt := 27) hx hb1 dX0_counts_23 (by decide) ?_
      exact hh_zret X h hr hlocks rfl hq dX0_counts_27
theorem nd_X0_anySaid : yX0_anySaid.cls = RX0 ∧ yX0_anySaid.cls ≠ "java/lang/invoke/MethodHandle" ∧ yX0_anySaid.cls ≠ "java/lang/invoke/VarHandle" ∧ (parseMethodDescriptor yX0_anySaid.desc).map (fun d => d.parameters.length) = some 1 := by decide +kernel
abbrev rm_X0_anySaid : Room := { frames := 0, cells := 0, slots := 0, locals := 0 }
def wq_X0_anySaid_2 (x1 : Int32) (Q : Int32 → hh_S → Prop) (K2 : Int32 → hh_S → Prop) (x2 : Int32) (σ : hh_S) : Prop := (((hh_I σ 320) ≤ x2 → (Q (0 : Int32) σ)) ∧ (¬ (hh_I σ 320) ≤ x2 → (vp_in x2 10 ∧ (vp_in x1 24 ∧ (((hh_rA σ (45 + (x2).toNatClampNeg) x1) = (-6 : Int32) → (K2 (x2 + (1 : Int32)) σ)) ∧ (¬ (hh_rA σ (45 + (x2).toNatClampNeg) x1) = (-6 : Int32) → (Q (1 : Int32) σ)))))))
def wp_X0_anySaid (x1 : Int32) (σ : hh_S) (Q : Int32 → hh_S → Prop) : Prop := (∃ n : Nat, hh_lp1 (wq_X0_anySaid_2 x1 Q) n (0 : Int32) σ)
theorem in_X0_anySaid_X0 : ∀ w ∈ u_ws RX0 TX0 4, w ∈ wsX0_anySaid := fun w h => List.mem_cons_of_mem _ (List.mem_append_right _ h)
set_option maxHeartbeats 4000000 in
set_option maxRecDepth 100000 in
theorem ad_X0_anySaid {D : va_G} (l : Launch) {cy : Nat → ClassId} {ad : Nat → Nat} (J : hh_J hc_Y ad) (x1 : Int32) (σ : hh_S) (Q : Int32 → hh_S → Prop) (hq : wp_X0_anySaid x1 σ Q) : Met l yX0_anySaid wsX0_anySaid rm_X0_anySaid (va_Pc [.ref (ad 5), .int x1] (hh_B D hh_cl hc_Y cy ad σ)) (va_Qi Q (hh_B D hh_cl hc_Y cy ad) (hh_A hc_Y ad)) 0 0 (hh_A hc_Y ad) := by
  refine Met.ofW (cc := cX0_anySaid) (maxL := 3) (ret := (some .boolean)) (by decide) rfl ?_
  intro p e s m args below meth c s₁ B hml hv
  obtain ⟨hargs, hP0, hK0⟩ := hv
  have hr := B.returns
  have hlocks := B.notSynchronized
  have X : hh_X p m c cX0_anySaid 3 s args wsX0_anySaid RX0 D hh_cl hc_Y cy ad := ⟨⟨B.exec, B.bytes, hml, findClass_of_methodNamed B.named, atoms_spec (ws := wsX0_anySaid) B.pre⟩, hK0, J⟩
  have hx := X.1.1
  have hb1 := X.1.2.1
  have h : hh_H D hh_cl hc_Y cy ad s.heap σ s.heap [] := ⟨hP0, va_S.rf⟩
  have lt_2 : ∀ (x1 : Int32) (n : Nat) (x2 : Int32) (σ : hh_S) (H : Heap) (locs : List Loc) (ls : Array Slot), hh_lp1 (wq_X0_anySaid_2 x1 Q) n x2 σ → hh_H D hh_cl hc_Y cy ad s.heap σ H locs → lv_has ls 3 [(0, .ref (ad 5)), (1, .int x1), (2, .int x2)] → W p l e (headSpec wsX0_anySaid rm_X0_anySaid).room s m args below meth c H locs 0 0 (MQ below (va_Qi Q (hh_B D hh_cl hc_Y cy ad) (hh_A hc_Y ad)) args s 0 0 (hh_A hc_Y ad)) (F0 m 2 ls []) := by
    intro x1 n
    induction n with
    | zero => intro x2 σ H locs ls hq h hl; exact hq.elim
    | succ n ih =>
      intro x2 σ H locs ls hq h hl
      have hq : wq_X0_anySaid_2 x1 Q (hh_lp1 (wq_X0_anySaid_2 x1 Q) n) x2 σ := hq
      unfold wq_X0_anySaid_2 at hq
      refine lv_iload_n hx hb1 dX0_anySaid_2 rfl (lv_at hl 2 rfl) ?_
      refine lv_aload_n hx hb1 dX0_anySaid_3 rfl (lv_at hl 0 rfl) ?_
      refine hh_geti X h (q := 320) fc_5_0 rfl in_X0_anySaid_X0 kc_5 (by decide) (List.mem_of_getElem? (i := 1) rfl) rfl dX0_anySaid_4 ?_
      refine lv_icmp_ge (tgt := 31) hx hb1 dX0_anySaid_7 (by decide) (fun c1 => ?_) (fun c1 => ?_)
      · have hq := hq.1 c1
        refine lv_iconst (v := (0 : Int32)) hx hb1 dX0_anySaid_31 (by decide) ?_
        exact hh_zret X h hr hlocks rfl hq dX0_anySaid_32
      · have hq := hq.2 c1
        refine lv_aload_n hx hb1 dX0_anySaid_10 rfl (lv_at hl 0 rfl) ?_
        refine hh_getr X h fc_5_3 in_X0_anySaid_X0 kc_5 (by decide) (List.mem_of_getElem? (i := 2) rfl) rfl dX0_anySaid_11 ?_
        refine lv_iload_n hx hb1 dX0_anySaid_14 rfl (lv_at hl 2 rfl) ?_
        obtain ⟨h2, hq⟩ := hq
        refine hh_ald X h ac_28 h2 dX0_anySaid_15 ?_
        refine lv_iload_n hx hb1 dX0_anySaid_16 rfl (lv_at hl 1 rfl) ?_
        obtain ⟨h3, hq⟩ := hq
        refine hh_ild X h (ar_said h2) h3 dX0_anySaid_17 ?_
        refine lv_bipush (v := (-6 : Int32)) hx hb1 dX0_anySaid_18 (by decide) ?_
        refine lv_icmp_eq (tgt := 25) hx hb1 dX0_anySaid_20 (by decide) (fun c4 => ?_) (fun c4 => ?_)
        · have hq := hq.1 c4
          refine lv_iinc (v := (x2 + (1 : Int32))) (lv' := [(2, .int (x2 + (1 : Int32))), (0, .ref (ad 5)), (1, .int x1)]) hx hb1 dX0_anySaid_25 hl (k := 2) rfl rfl (by decide) rfl (fun ls hl => ?_)
          refine lv_goto (tgt := 2) hx hb1 dX0_anySaid_28 (by decide) ?_
          exact ih (x2 + (1 : Int32)) σ _ _ ls hq h (lv_sub hl [1, 2, 0] rfl)
        · have hq := hq.2 c4
          refine lv_iconst (v := (1 : Int32)) hx hb1 dX0_anySaid_23 (by decide) ?_
          exact hh_zret X h hr hlocks rfl hq dX0_anySaid_24
  subst hargs
  refine hh_entry (vs := [.ref (ad 5), .int x1]) (Nat.le_of_ble_eq_true rfl) (fun ls hl => ?_)
  have hl : lv_has ls 3 [(0, .ref (ad 5)), (1, .int x1)] := hl
  have hq : wp_X0_anySaid x1 σ Q := hq
  unfold wp_X0_anySaid at hq
  refine lv_iconst (v := (0 : Int32)) hx hb1 dX0_anySaid_0 (by decide) ?_
  refine lv_istore_n (lv' := [(2, .int (0 : Int32)), (0, .ref (ad 5)), (1, .int x1)]) hx hb1 dX0_anySaid_1 rfl hl (by decide) rfl (fun ls hl => ?_)
  obtain ⟨n5, hq⟩ := hq
  exact lt_2 x1 n5 (0 : Int32) σ _ _ ls hq h (lv_sub hl [1, 2, 0] rfl)
theorem nd_X0_countTo : yX0_countTo.cls = RX0 ∧ yX0_countTo.cls ≠ "java/lang/invoke/MethodHandle" ∧ yX0_countTo.cls ≠ "java/lang/invoke/VarHandle" ∧ (parseMethodDescriptor yX0_countTo.desc).map (fun d => d.parameters.length) = some 1 := by decide +kernel
abbrev rm_X0_countTo : Room := { frames := 1, cells := 0, slots := 0, locals := 22 }
def wq_X0_countTo_4 (x1 : Int32) (Q : Int32 → hh_S → Prop) (K4 : Int32 → Int32 → hh_S → Prop) (x2 : Int32) (x3 : Int32) (σ : hh_S) : Prop := (((hh_I σ 320) ≤ x3 → (Q x2 σ)) ∧ (¬ (hh_I σ 320) ≤ x3 → (wp_X0_counts x3 x1 σ (fun (r2 : Int32) (σ3 : hh_S) => ((r2 = 0 → (∀ v5 : Int32, v5 = (x2 + (0 : Int32)) → (K4 v5 (x3 + (1 : Int32)) σ3))) ∧ (¬ r2 = 0 → (∀ v6 : Int32, v6 = (x2 + (1 : Int32)) → (K4 v6 (x3 + (1 : Int32)) σ3))))))))
def wp_X0_countTo (x1 : Int32) (σ : hh_S) (Q : Int32 → hh_S → Prop) : Prop := (∃ n : Nat, hh_lp2 (wq_X0_countTo_4 x1 Q) n (0 : Int32) (0 : Int32) σ)
theorem in_X0_countTo_X0 : ∀ w ∈ u_ws RX0 TX0 4, w ∈ wsX0_countTo := fun w h => List.mem_cons_of_mem _ (List.mem_append_right _ h)
set_option maxHeartbeats 4000000 in
set_option maxRecDepth 100000 in
theorem ad_X0_countTo {D : va_G} (l : Launch) {cy : Nat → ClassId} {ad : Nat → Nat} (J : hh_J hc_Y ad) (x1 : Int32) (σ : hh_S) (Q : Int32 → hh_S → Prop) (hq : wp_X0_countTo x1 σ Q) : Met l yX0_countTo wsX0_countTo rm_X0_countTo (va_Pc [.ref (ad 5), .int x1] (hh_B D hh_cl hc_Y cy ad σ)) (va_Qi Q (hh_B D hh_cl hc_Y cy ad) (hh_A hc_Y ad)) 0 0 (hh_A hc_Y ad) := by
  refine Met.ofW (cc := cX0_countTo) (maxL := 4) (ret := (some .int)) (by decide) rfl ?_
  intro p e s m args below meth c s₁ B hml hv
  obtain ⟨hargs, hP0, hK0⟩ := hv
  have hr := B.returns
  have hlocks := B.notSynchronized
  have X : hh_X p m c cX0_countTo 4 s args wsX0_countTo RX0 D hh_cl hc_Y cy ad := ⟨⟨B.exec, B.bytes, hml, findClass_of_methodNamed B.named, atoms_spec (ws := wsX0_countTo) B.pre⟩, hK0, J⟩
  have hx := X.1.1
  have hb1 := X.1.2.1
  have h : hh_H D hh_cl hc_Y cy ad s.heap σ s.heap [] := ⟨hP0, va_S.rf⟩
  have lt_4 : ∀ (x1 : Int32) (n : Nat) (x2 : Int32) (x3 : Int32) (σ : hh_S) (H : Heap) (locs : List Loc) (ls : Array Slot), hh_lp2 (wq_X0_countTo_4 x1 Q) n x2 x3 σ → hh_H D hh_cl hc_Y cy ad s.heap σ H locs → lv_has ls 4 [(0, .ref (ad 5)), (1, .int x1), (2, .int x2), (3, .int x3)] → W p l e (headSpec wsX0_countTo rm_X0_countTo).room s m args below meth c H locs 0 0 (MQ below (va_Qi Q (hh_B D hh_cl hc_Y cy ad) (hh_A hc_Y ad)) args s 0 0 (hh_A hc_Y ad)) (F0 m 4 ls []) := by
    intro x1 n
    induction n with
    | zero => intro x2 x3 σ H locs ls hq h hl; exact hq.elim
    | succ n ih =>
      intro x2 x3 σ H locs ls hq h hl
      have hq : wq_X0_countTo_4 x1 Q (hh_lp2 (wq_X0_countTo_4 x1 Q) n) x2 x3 σ := hq
      unfold wq_X0_countTo_4 at hq
      refine lv_iload_n hx hb1 dX0_countTo_4 rfl (lv_at hl 3 rfl) ?_
      refine lv_aload_n hx hb1 dX0_countTo_5 rfl (lv_at hl 0 rfl) ?_
      refine hh_geti X h (q := 320) fc_5_0 rfl in_X0_countTo_X0 kc_5 (by decide) (List.mem_of_getElem? (i := 1) rfl) rfl dX0_countTo_6 ?_
      refine lv_icmp_ge (tgt := 35) hx hb1 dX0_countTo_9 (by decide) (fun c1 => ?_) (fun c1 => ?_)
      · have hq := hq.1 c1
        refine lv_iload_n hx hb1 dX0_countTo_35 rfl (lv_at hl 2 rfl) ?_
        exact hh_iret X h hr hlocks hq dX0_countTo_36
      · have hq := hq.2 c1
        refine lv_iload_n hx hb1 dX0_countTo_12 rfl (lv_at hl 2 rfl) ?_
        refine lv_aload_n hx hb1 dX0_countTo_13 rfl (lv_at hl 0 rfl) ?_
        refine lv_iload_n hx hb1 dX0_countTo_14 rfl (lv_at hl 3 rfl) ?_
        refine lv_iload_n hx hb1 dX0_countTo_15 rfl (lv_at hl 1 rfl) ?_
        refine hh_kI h (va_runV (As := [.int x3, .int x1]) (rest := [.int x2]) X.1 (ad_X0_counts (D := D) l J x3 x1 σ _ hq) (cwV 2 X.1.2.2.2.2 gX0_countTo_X0_counts rfl rfl rfl nd_X0_counts ⟨Nat.le_of_ble_eq_true rfl, Nat.le_of_ble_eq_true rfl⟩) (hh_preV X h fc_5_0 kc_5 [.int x3, .int x1]) rfl rfl hl.1 rfl (lv_room (Nat.le_of_ble_eq_true rfl)) dX0_countTo_16 ⟨Nat.le_of_ble_eq_true rfl, Nat.le_of_ble_eq_true rfl⟩) (fun r2 σ3 H locs hq h => ?_)
        refine lv_if_eq (tgt := 26) hx hb1 dX0_countTo_19 (by decide) (fun c4 => ?_) (fun c4 => ?_)
        · have hq := hq.1 c4
          refine lv_iconst (v := (0 : Int32)) hx hb1 dX0_countTo_26 (by decide) ?_
          refine lv_iadd hx hb1 dX0_countTo_27 ?_
          refine lv_topi (fun v5 ev5 => ?_)
          have hq := hq v5 ev5
          refine lv_istore_n (lv' := [(2, .int v5), (0, .ref (ad 5)), (1, .int x1), (3, .int x3)]) hx hb1 dX0_countTo_28 rfl hl (by decide) rfl (fun ls hl => ?_)
          refine lv_iinc (v := (x3 + (1 : Int32))) (lv' := [(3, .int (x3 + (1 : Int32))), (2, .int v5), (0, .ref (ad 5)), (1, .int x1)]) hx hb1 dX0_countTo_29 hl (k := 3) rfl rfl (by decide) rfl (fun ls hl => ?_)
          refine lv_goto (tgt := 4) hx hb1 dX0_countTo_32 (by decide) ?_
          exact ih v5 (x3 + (1 : Int32)) σ3 _ _ ls hq h (lv_sub hl [2, 3, 1, 0] rfl)
        · have hq := hq.2 c4
          refine lv_iconst (v := (1 : Int32)) hx hb1 dX0_countTo_22 (by decide) ?_
          refine lv_goto (tgt := 27) hx hb1 dX0_countTo_23 (by decide) ?_
          refine lv_iadd hx hb1 dX0_countTo_27 ?_
          refine lv_topi (fun v6 ev6 => ?_)
          have hq := hq v6 ev6
          refine lv_istore_n (lv' := [(2, .int v6), (0, .ref (ad 5)), (1, .int x1), (3, .int x3)]) hx hb1 dX0_countTo_28 rfl hl (by decide) rfl (fun ls hl => ?_)
          refine lv_iinc (v := (x3 + (1 : Int32))) (lv' := [(3, .int (x3 + (1 : Int32))), (2, .int v6), (0, .ref (ad 5)), (1, .int x1)]) hx hb1 dX0_countTo_29 hl (k := 3) rfl rfl (by decide) rfl (fun ls hl => ?_)
          refine lv_goto (tgt := 4) hx hb1 dX0_countTo_32 (by decide) ?_
          exact ih v6 (x3 + (1 : Int32)) σ3 _ _ ls hq h (lv_sub hl [2, 3, 1, 0] rfl)
  subst hargs
  refine hh_entry (vs := [.ref (ad 5), .int x1]) (Nat.le_of_ble_eq_true rfl) (fun ls hl => ?_)
  have hl : lv_has ls 4 [(0, .ref (ad 5)), (1, .int x1)] := hl
  have hq : wp_X0_countTo x1 σ Q := hq
  unfold wp_X0_countTo at hq
  refine lv_iconst (v := (0 : Int32)) hx hb1 dX0_countTo_0 (by decide) ?_
  refine lv_istore_n (lv' := [(2, .int (0 : Int32)), (0, .ref (ad 5)), (1, .int x1)]) hx hb1 dX0_countTo_1 rfl hl (by decide) rfl (fun ls hl => ?_)
  refine lv_iconst (v := (0 : Int32)) hx hb1 dX0_countTo_2 (by decide) ?_
  refine lv_istore_n (lv' := [(3, .int (0 : Int32)), (2, .int (0 : Int32)), (0, .ref (ad 5)), (1, .int x1)]) hx hb1 dX0_countTo_3 rfl hl (by decide) rfl (fun ls hl => ?_)
  obtain ⟨n7, hq⟩ := hq
  exact lt_4 x1 n7 (0 : Int32) (0 : Int32) σ _ _ ls hq h (lv_sub hl [2, 3, 1, 0] rfl)
theorem nd_X0_countWith : yX0_countWith.cls = RX0 ∧ yX0_countWith.cls ≠ "java/lang/invoke/MethodHandle" ∧ yX0_countWith.cls ≠ "java/lang/invoke/VarHandle" ∧ (parseMethodDescriptor yX0_countWith.desc).map (fun d => d.parameters.length) = some 2 := by decide +kernel
abbrev rm_X0_countWith : Room := { frames := 1, cells := 0, slots := 0, locals := 22 }
def wq_X0_countWith_5 (x1 : Int32) (x2 : Int32) (Q : Int32 → hh_S → Prop) (K5 : Int32 → Int32 → hh_S → Prop) (x3 : Int32) (x4 : Int32) (σ : hh_S) : Prop := (((hh_I σ 320) ≤ x4 → (Q x3 σ)) ∧ (¬ (hh_I σ 320) ≤ x4 → (wp_X0_counts x4 x1 σ (fun (r2 : Int32) (σ3 : hh_S) => ((r2 = 0 → (∀ v5 : Int32, v5 = (x3 + (0 : Int32)) → (K5 v5 (x4 + (1 : Int32)) σ3))) ∧ (¬ r2 = 0 → (vp_in x4 10 ∧ (vp_in x1 24 ∧ ((¬ (hh_rA σ3 (45 + (x4).toNatClampNeg) x1) = x2 → (∀ v9 : Int32, v9 = (x3 + (0 : Int32)) → (K5 v9 (x4 + (1 : Int32)) σ3))) ∧ ((hh_rA σ3 (45 + (x4).toNatClampNeg) x1) = x2 → (∀ v10 : Int32, v10 = (x3 + (1 : Int32)) → (K5 v10 (x4 + (1 : Int32)) σ3))))))))))))
def wp_X0_countWith (x1 : Int32) (x2 : Int32) (σ : hh_S) (Q : Int32 → hh_S → Prop) : Prop := (∃ n : Nat, hh_lp2 (wq_X0_countWith_5 x1 x2 Q) n (0 : Int32) (0 : Int32) σ)
theorem in_X0_countWith_X0 : ∀ w ∈ u_ws RX0 TX0 4, w ∈ wsX0_countWith := fun w h => List.mem_cons_of_mem _ (List.mem_append_right _ h)
set_option maxHeartbeats 4000000 in
set_option maxRecDepth 100000 in
theorem ad_X0_countWith {D : va_G} (l : Launch) {cy : Nat → ClassId} {ad : Nat → Nat} (J : hh_J hc_Y ad) (x1 : Int32) (x2 : Int32) (σ : hh_S) (Q : Int32 → hh_S → Prop) (hq : wp_X0_countWith x1 x2 σ Q) : Met l yX0_countWith wsX0_countWith rm_X0_countWith (va_Pc [.ref (ad 5), .int x1, .int x2] (hh_B D hh_cl hc_Y cy ad σ)) (va_Qi Q (hh_B D hh_cl hc_Y cy ad) (hh_A hc_Y ad)) 0 0 (hh_A hc_Y ad) := by
  refine Met.ofW (cc := cX0_countWith) (maxL := 5) (ret := (some .int)) (by decide) rfl ?_
  intro p e s m args below meth c s₁ B hml hv
  obtain ⟨hargs, hP0, hK0⟩ := hv
  have hr := B.returns
  have hlocks := B.notSynchronized
  have X : hh_X p m c cX0_countWith 5 s args wsX0_countWith RX0 D hh_cl hc_Y cy ad := ⟨⟨B.exec, B.bytes, hml, findClass_of_methodNamed B.named, atoms_spec (ws := wsX0_countWith) B.pre⟩, hK0, J⟩
  have hx := X.1.1
  have hb1 := X.1.2.1
  have h : hh_H D hh_cl hc_Y cy ad s.heap σ s.heap [] := ⟨hP0, va_S.rf⟩
  have lt_5 : ∀ (x1 : Int32) (x2 : Int32) (n : Nat) (x3 : Int32) (x4 : Int32) (σ : hh_S) (H : Heap) (locs : List Loc) (ls : Array Slot), hh_lp2 (wq_X0_countWith_5 x1 x2 Q) n x3 x4 σ → hh_H D hh_cl hc_Y cy ad s.heap σ H locs → lv_has ls 5 [(0, .ref (ad 5)), (1, .int x1), (2, .int x2), (3, .int x3), (4, .int x4)] → W p l e (headSpec wsX0_countWith rm_X0_countWith).room s m args below meth c H locs 0 0 (MQ below (va_Qi Q (hh_B D hh_cl hc_Y cy ad) (hh_A hc_Y ad)) args s 0 0 (hh_A hc_Y ad)) (F0 m 5 ls []) := by
    intro x1 x2 n
    induction n with
    | zero => intro x3 x4 σ H locs ls hq h hl; exact hq.elim
    | succ n ih =>
      intro x3 x4 σ H locs ls hq h hl
      have hq : wq_X0_countWith_5 x1 x2 Q (hh_lp2 (wq_X0_countWith_5 x1 x2 Q) n) x3 x4 σ := hq
      unfold wq_X0_countWith_5 at hq
      refine lv_iload hx hb1 dX0_countWith_5 (lv_at hl 4 rfl) ?_
      refine lv_aload_n hx hb1 dX0_countWith_7 rfl (lv_at hl 0 rfl) ?_
      refine hh_geti X h (q := 320) fc_5_0 rfl in_X0_countWith_X0 kc_5 (by decide) (List.mem_of_getElem? (i := 1) rfl) rfl dX0_countWith_8 ?_
      refine lv_icmp_ge (tgt := 51) hx hb1 dX0_countWith_11 (by decide) (fun c1 => ?_) (fun c1 => ?_)
      · have hq := hq.1 c1
        refine lv_iload_n hx hb1 dX0_countWith_51 rfl (lv_at hl 3 rfl) ?_
        exact hh_iret X h hr hlocks hq dX0_countWith_52
      · have hq := hq.2 c1
        refine lv_iload_n hx hb1 dX0_countWith_14 rfl (lv_at hl 3 rfl) ?_
        refine lv_aload_n hx hb1 dX0_countWith_15 rfl (lv_at hl 0 rfl) ?_
        refine lv_iload hx hb1 dX0_countWith_16 (lv_at hl 4 rfl) ?_
        refine lv_iload_n hx hb1 dX0_countWith_18 rfl (lv_at hl 1 rfl) ?_
        refine hh_kI h (va_runV (As := [.int x4, .int x1]) (rest := [.int x3]) X.1 (ad_X0_counts (D := D) l J x4 x1 σ _ hq) (cwV 2 X.1.2.2.2.2 gX0_countWith_X0_counts rfl rfl rfl nd_X0_counts ⟨Nat.le_of_ble_eq_true rfl, Nat.le_of_ble_eq_true rfl⟩) (hh_preV X h fc_5_0 kc_5 [.int x4, .int x1]) rfl rfl hl.1 rfl (lv_room (Nat.le_of_ble_eq_true rfl)) dX0_countWith_19 ⟨Nat.le_of_ble_eq_true rfl, Nat.le_of_ble_eq_true rfl⟩) (fun r2 σ3 H locs hq h => ?_)
        refine lv_if_eq (tgt := 42) hx hb1 dX0_countWith_22 (by decide) (fun c4 => ?_) (fun c4 => ?_)
        · have hq := hq.1 c4
          refine lv_iconst (v := (0 : Int32)) hx hb1 dX0_countWith_42 (by decide) ?_
          refine lv_iadd hx hb1 dX0_countWith_43 ?_
          refine lv_topi (fun v5 ev5 => ?_)
          have hq := hq v5 ev5
          refine lv_istore_n (lv' := [(3, .int v5), (0, .ref (ad 5)), (1, .int x1), (2, .int x2), (4, .int x4)]) hx hb1 dX0_countWith_44 rfl hl (by decide) rfl (fun ls hl => ?_)
          refine lv_iinc (v := (x4 + (1 : Int32))) (lv' := [(4, .int (x4 + (1 : Int32))), (3, .int v5), (0, .ref (ad 5)), (1, .int x1), (2, .int x2)]) hx hb1 dX0_countWith_45 hl (k := 4) rfl rfl (by decide) rfl (fun ls hl => ?_)
          refine lv_goto (tgt := 5) hx hb1 dX0_countWith_48 (by decide) ?_
          exact ih v5 (x4 + (1 : Int32)) σ3 _ _ ls hq h (lv_sub hl [2, 3, 4, 1, 0] rfl)
        · have hq := hq.2 c4
          refine lv_aload_n hx hb1 dX0_countWith_25 rfl (lv_at hl 0 rfl) ?_
          refine hh_getr X h fc_5_3 in_X0_countWith_X0 kc_5 (by decide) (List.mem_of_getElem? (i := 2) rfl) rfl dX0_countWith_26 ?_
          refine lv_iload hx hb1 dX0_countWith_29 (lv_at hl 4 rfl) ?_
          obtain ⟨h6, hq⟩ := hq
          refine hh_ald X h ac_28 h6 dX0_countWith_31 ?_
          refine lv_iload_n hx hb1 dX0_countWith_32 rfl (lv_at hl 1 rfl) ?_
          obtain ⟨h7, hq⟩ := hq
          refine hh_ild X h (ar_said h6) h7 dX0_countWith_33 ?_
          refine lv_iload_n hx hb1 dX0_countWith_34 rfl (lv_at hl 2 rfl) ?_
          refine lv_icmp_ne (tgt := 42) hx hb1 dX0_countWith_35 (by decide) (fun c8 => ?_) (fun c8 => ?_)
          · have hq := hq.1 c8
            refine lv_iconst (v := (0 : Int32)) hx hb1 dX0_countWith_42 (by decide) ?_
            refine lv_iadd hx hb1 dX0_countWith_43 ?_
            refine lv_topi (fun v9 ev9 => ?_)
            have hq := hq v9 ev9
            refine lv_istore_n (lv' := [(3, .int v9), (0, .ref (ad 5)), (1, .int x1), (2, .int x2), (4, .int x4)]) hx hb1 dX0_countWith_44 rfl hl (by decide) rfl (fun ls hl => ?_)
            refine lv_iinc (v := (x4 + (1 : Int32))) (lv' := [(4, .int (x4 + (1 : Int32))), (3, .int v9), (0, .ref (ad 5)), (1, .int x1), (2, .int x2)]) hx hb1 dX0_countWith_45 hl (k := 4) rfl rfl (by decide) rfl (fun ls hl => ?_)
            refine lv_goto (tgt := 5) hx hb1 dX0_countWith_48 (by decide) ?_
            exact ih v9 (x4 + (1 : Int32)) σ3 _ _ ls hq h (lv_sub hl [2, 3, 4, 1, 0] rfl)
          · have hq := hq.2 c8
            refine lv_iconst (v := (1 : Int32)) hx hb1 dX0_countWith_38 (by decide) ?_
            refine lv_goto (tgt := 43) hx hb1 dX0_countWith_39 (by decide) ?_
            refine lv_iadd hx hb1 dX0_countWith_43 ?_
            refine lv_topi (fun v10 ev10 => ?_)
            have hq := hq v10 ev10
            refine lv_istore_n (lv' := [(3, .int v10), (0, .ref (ad 5)), (1, .int x1), (2, .int x2), (4, .int x4)]) hx hb1 dX0_countWith_44 rfl hl (by decide) rfl (fun ls hl => ?_)
            refine lv_iinc (v := (x4 + (1 : Int32))) (lv' := [(4, .int (x4 + (1 : Int32))), (3, .int v10), (0, .ref (ad 5)), (1, .int x1), (2, .int x2)]) hx hb1 dX0_countWith_45 hl (k := 4) rfl rfl (by decide) rfl (fun ls hl => ?_)
            refine lv_goto (tgt := 5) hx hb1 dX0_countWith_48 (by decide) ?_
            exact ih v10 (x4 + (1 : Int32)) σ3 _ _ ls hq h (lv_sub hl [2, 3, 4, 1, 0] rfl)
  subst hargs
  refine hh_entry (vs := [.ref (ad 5), .int x1, .int x2]) (Nat.le_of_ble_eq_true rfl) (fun ls hl => ?_)
  have hl : lv_has ls 5 [(0, .ref (ad 5)), (1, .int x1), (2, .int x2)] := hl
  have hq : wp_X0_countWith x1 x2 σ Q := hq
  unfold wp_X0_countWith at hq
  refine lv_iconst (v := (0 : Int32)) hx hb1 dX0_countWith_0 (by decide) ?_
  refine lv_istore_n (lv' := [(3, .int (0 : Int32)), (0, .ref (ad 5)), (1, .int x1), (2, .int x2)]) hx hb1 dX0_countWith_1 rfl hl (by decide) rfl (fun ls hl => ?_)
  refine lv_iconst (v := (0 : Int32)) hx hb1 dX0_countWith_2 (by decide) ?_
  refine lv_istore (lv' := [(4, .int (0 : Int32)), (3, .int (0 : Int32)), (0, .ref (ad 5)), (1, .int x1), (2, .int x2)]) hx hb1 dX0_countWith_3 hl (by decide) rfl (fun ls hl => ?_)
  obtain ⟨n11, hq⟩ := hq
  exact lt_5 x1 x2 n11 (0 : Int32) (0 : Int32) σ _ _ ls hq h (lv_sub hl [2, 3, 4, 1, 0] rfl)
