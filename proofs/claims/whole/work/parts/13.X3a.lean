theorem nd_X3_part : yX3_part.cls = RX3 ∧ yX3_part.cls ≠ "java/lang/invoke/MethodHandle" ∧ yX3_part.cls ≠ "java/lang/invoke/VarHandle" ∧ (parseMethodDescriptor yX3_part.desc).map (fun d => d.parameters.length) = some 1 := by decide +kernel
abbrev rm_X3_part : Room := { frames := 0, cells := 0, slots := 0, locals := 0 }
def wp_X3_part (x1 : Int32) (σ : hh_S) (Q : Int64 → hh_S → Prop) : Prop := ((¬ x1 = 0 → (Q (hh_L σ 578) σ)) ∧ (x1 = 0 → (Q (hh_L σ 577) σ)))
theorem in_X3_part_X3 : ∀ w ∈ u_ws RX3 TX3 4, w ∈ wsX3_part := fun w h => List.mem_cons_of_mem _ (List.mem_append_right _ h)
set_option maxHeartbeats 4000000 in
set_option maxRecDepth 100000 in
theorem ad_X3_part {D : va_G} (l : Launch) {cy : Nat → ClassId} {ad : Nat → Nat} (J : hh_J hc_Y ad) (x1 : Int32) (σ : hh_S) (Q : Int64 → hh_S → Prop) (hq : wp_X3_part x1 σ Q) : Met l yX3_part wsX3_part rm_X3_part (va_Pc [.ref (ad 9), .int x1] (hh_B D hh_cl hc_Y cy ad σ)) (va_Ql Q (hh_B D hh_cl hc_Y cy ad) (hh_A hc_Y ad)) 0 0 (hh_A hc_Y ad) := by
  refine Met.ofW (cc := cX3_part) (maxL := 2) (ret := (some .long)) (by decide) rfl ?_
  intro p e s m args below meth c s₁ B hml hv
  obtain ⟨hargs, hP0, hK0⟩ := hv
  have hr := B.returns
  have hlocks := B.notSynchronized
  have X : hh_X p m c cX3_part 2 s args wsX3_part RX3 D hh_cl hc_Y cy ad := ⟨⟨B.exec, B.bytes, hml, findClass_of_methodNamed B.named, atoms_spec (ws := wsX3_part) B.pre⟩, hK0, J⟩
  have hx := X.1.1
  have hb1 := X.1.2.1
  have h : hh_H D hh_cl hc_Y cy ad s.heap σ s.heap [] := ⟨hP0, va_S.rf⟩
  subst hargs
  refine hh_entry (vs := [.ref (ad 9), .int x1]) (Nat.le_of_ble_eq_true rfl) (fun ls hl => ?_)
  have hl : lv_has ls 2 [(0, .ref (ad 9)), (1, .int x1)] := hl
  have hq : wp_X3_part x1 σ Q := hq
  unfold wp_X3_part at hq
  refine lv_iload_n hx hb1 dX3_part_0 rfl (lv_at hl 1 rfl) ?_
  refine lv_if_ne (tgt := 11) hx hb1 dX3_part_1 (by decide) (fun c1 => ?_) (fun c1 => ?_)
  · have hq := hq.1 c1
    refine lv_aload_n hx hb1 dX3_part_11 rfl (lv_at hl 0 rfl) ?_
    refine hh_getl X h (q := 578) fc_9_2 rfl in_X3_part_X3 kc_9 (by decide) (List.mem_of_getElem? (i := 2) rfl) rfl dX3_part_12 ?_
    exact hh_lret X h hr hlocks hq dX3_part_15
  · have hq := hq.2 c1
    refine lv_aload_n hx hb1 dX3_part_4 rfl (lv_at hl 0 rfl) ?_
    refine hh_getl X h (q := 577) fc_9_1 rfl in_X3_part_X3 kc_9 (by decide) (List.mem_of_getElem? (i := 1) rfl) rfl dX3_part_5 ?_
    refine lv_goto (tgt := 15) hx hb1 dX3_part_8 (by decide) ?_
    exact hh_lret X h hr hlocks hq dX3_part_15
theorem nd_X3_begin : yX3_begin.cls = RX3 ∧ yX3_begin.cls ≠ "java/lang/invoke/MethodHandle" ∧ yX3_begin.cls ≠ "java/lang/invoke/VarHandle" ∧ (parseMethodDescriptor yX3_begin.desc).map (fun d => d.parameters.length) = some 0 := by decide +kernel
abbrev rm_X3_begin : Room := { frames := 0, cells := 0, slots := 0, locals := 0 }
def wp_X3_begin (σ : hh_S) (Q : hh_S → Prop) : Prop := (∀ σ1 : hh_S, σ1 = hh_uI σ 576 (0 : Int32) → (∀ σ2 : hh_S, σ2 = hh_sB σ1 42 (0 : Int32) (1 : Int64) → (Q σ2)))
theorem in_X3_begin_X3 : ∀ w ∈ u_ws RX3 TX3 4, w ∈ wsX3_begin := fun w h => List.mem_cons_of_mem _ (List.mem_append_right _ h)
set_option maxHeartbeats 4000000 in
set_option maxRecDepth 100000 in
theorem ad_X3_begin {D : va_G} (l : Launch) {cy : Nat → ClassId} {ad : Nat → Nat} (J : hh_J hc_Y ad) (σ : hh_S) (Q : hh_S → Prop) (hq : wp_X3_begin σ Q) : Met l yX3_begin wsX3_begin rm_X3_begin (va_Pc [.ref (ad 9)] (hh_B D hh_cl hc_Y cy ad σ)) (va_Qv Q (hh_B D hh_cl hc_Y cy ad) (hh_A hc_Y ad)) 0 0 (hh_A hc_Y ad) := by
  refine Met.ofW (cc := cX3_begin) (maxL := 1) (ret := none) (by decide) rfl ?_
  intro p e s m args below meth c s₁ B hml hv
  obtain ⟨hargs, hP0, hK0⟩ := hv
  have hr := B.returns
  have hlocks := B.notSynchronized
  have X : hh_X p m c cX3_begin 1 s args wsX3_begin RX3 D hh_cl hc_Y cy ad := ⟨⟨B.exec, B.bytes, hml, findClass_of_methodNamed B.named, atoms_spec (ws := wsX3_begin) B.pre⟩, hK0, J⟩
  have hx := X.1.1
  have hb1 := X.1.2.1
  have h : hh_H D hh_cl hc_Y cy ad s.heap σ s.heap [] := ⟨hP0, va_S.rf⟩
  subst hargs
  refine hh_entry (vs := [.ref (ad 9)]) (Nat.le_of_ble_eq_true rfl) (fun ls hl => ?_)
  have hl : lv_has ls 1 [(0, .ref (ad 9))] := hl
  have hq : wp_X3_begin σ Q := hq
  unfold wp_X3_begin at hq
  refine lv_aload_n hx hb1 dX3_begin_0 rfl (lv_at hl 0 rfl) ?_
  refine lv_iconst (v := (0 : Int32)) hx hb1 dX3_begin_1 (by decide) ?_
  refine hh_puti X h (q := 576) hc_n fc_9_0 rfl in_X3_begin_X3 kc_9 tyX3 tyX3_ok nmX3 (by decide) (List.mem_of_getElem? (i := 1) rfl) rfl rfl rfl rfl dX3_begin_2 (fun σ1 H locs eσ1 h => ?_)
  have hq := hq σ1 eσ1
  refine lv_aload_n hx hb1 dX3_begin_5 rfl (lv_at hl 0 rfl) ?_
  refine hh_getr X h fc_9_3 in_X3_begin_X3 kc_9 (by decide) (List.mem_of_getElem? (i := 2) rfl) rfl dX3_begin_6 ?_
  refine lv_iconst (v := (0 : Int32)) hx hb1 dX3_begin_9 (by decide) ?_
  refine lv_lconst (v := (1 : Int64)) hx hb1 dX3_begin_10 (by decide) ?_
  refine hh_lst X h ac_42 (vp_in_iff.mpr (by decide)) dX3_begin_11 (fun σ2 H locs eσ2 h => ?_)
  have hq := hq σ2 eσ2
  exact hh_vret X h hr hlocks hq dX3_begin_12
theorem nd_X3_draw : yX3_draw.cls = RX3 ∧ yX3_draw.cls ≠ "java/lang/invoke/MethodHandle" ∧ yX3_draw.cls ≠ "java/lang/invoke/VarHandle" ∧ (parseMethodDescriptor yX3_draw.desc).map (fun d => d.parameters.length) = some 1 := by decide +kernel
abbrev rm_X3_draw : Room := { frames := 0, cells := 0, slots := 0, locals := 0 }
def wq_X3_draw_47 (x1 : Int32) (Q : hh_S → Prop) (K47 : Int32 → hh_S → Prop) (x2 : Int32) (σ : hh_S) : Prop := ((x2 ≤ 0 → (∀ σ2 : hh_S, σ2 = hh_sB σ 42 (0 : Int32) ((hh_rB σ 42 (0 : Int32)) * ((x1 - (1 : Int32)).toInt64)) → (Q σ2))) ∧ (¬ x2 ≤ 0 → (vp_in x2 25 ∧ (vp_in (x2 - (1 : Int32)) 25 ∧ (vp_in x2 25 ∧ ∀ σ6 : hh_S, σ6 = hh_sB σ 42 x2 (((hh_rB σ 42 x2) * ((x1 - (1 : Int32)).toInt64)) + (hh_rB σ 42 (x2 - (1 : Int32)))) → (K47 (x2 + (-1 : Int32)) σ6))))))
def wp_X3_draw (x1 : Int32) (σ : hh_S) (Q : hh_S → Prop) : Prop := (((hh_I σ 576) < (24 : Int32) → (∀ σ8 : hh_S, σ8 = hh_uI σ 576 ((hh_I σ 576) + (1 : Int32)) → (vp_in ((hh_I σ8 576) - (1 : Int32)) 25 ∧ (vp_in (hh_I σ8 576) 25 ∧ ∀ σ11 : hh_S, σ11 = hh_sB σ8 42 (hh_I σ8 576) (hh_rB σ8 42 ((hh_I σ8 576) - (1 : Int32))) → (∀ v12 : Int32, v12 = ((hh_I σ11 576) - (1 : Int32)) → (∃ n : Nat, hh_lp1 (wq_X3_draw_47 x1 Q) n v12 σ11)))))) ∧ (¬ (hh_I σ 576) < (24 : Int32) → (Q σ)))
theorem in_X3_draw_X3 : ∀ w ∈ u_ws RX3 TX3 4, w ∈ wsX3_draw := fun w h => List.mem_cons_of_mem _ (List.mem_append_right _ h)
set_option maxHeartbeats 4000000 in
set_option maxRecDepth 100000 in
theorem ad_X3_draw {D : va_G} (l : Launch) {cy : Nat → ClassId} {ad : Nat → Nat} (J : hh_J hc_Y ad) (x1 : Int32) (σ : hh_S) (Q : hh_S → Prop) (hq : wp_X3_draw x1 σ Q) : Met l yX3_draw wsX3_draw rm_X3_draw (va_Pc [.ref (ad 9), .int x1] (hh_B D hh_cl hc_Y cy ad σ)) (va_Qv Q (hh_B D hh_cl hc_Y cy ad) (hh_A hc_Y ad)) 0 0 (hh_A hc_Y ad) := by
  refine Met.ofW (cc := cX3_draw) (maxL := 3) (ret := none) (by decide) rfl ?_
  intro p e s m args below meth c s₁ B hml hv
  obtain ⟨hargs, hP0, hK0⟩ := hv
  have hr := B.returns
  have hlocks := B.notSynchronized
  have X : hh_X p m c cX3_draw 3 s args wsX3_draw RX3 D hh_cl hc_Y cy ad := ⟨⟨B.exec, B.bytes, hml, findClass_of_methodNamed B.named, atoms_spec (ws := wsX3_draw) B.pre⟩, hK0, J⟩
  have hx := X.1.1
  have hb1 := X.1.2.1
  have h : hh_H D hh_cl hc_Y cy ad s.heap σ s.heap [] := ⟨hP0, va_S.rf⟩
  have lt_47 : ∀ (x1 : Int32) (n : Nat) (x2 : Int32) (σ : hh_S) (H : Heap) (locs : List Loc) (ls : Array Slot), hh_lp1 (wq_X3_draw_47 x1 Q) n x2 σ → hh_H D hh_cl hc_Y cy ad s.heap σ H locs → lv_has ls 3 [(0, .ref (ad 9)), (1, .int x1), (2, .int x2)] → W p l e (headSpec wsX3_draw rm_X3_draw).room s m args below meth c H locs 0 0 (MQ below (va_Qv Q (hh_B D hh_cl hc_Y cy ad) (hh_A hc_Y ad)) args s 0 0 (hh_A hc_Y ad)) (F0 m 47 ls []) := by
    intro x1 n
    induction n with
    | zero => intro x2 σ H locs ls hq h hl; exact hq.elim
    | succ n ih =>
      intro x2 σ H locs ls hq h hl
      have hq : wq_X3_draw_47 x1 Q (hh_lp1 (wq_X3_draw_47 x1 Q) n) x2 σ := hq
      unfold wq_X3_draw_47 at hq
      refine lv_iload_n hx hb1 dX3_draw_47 rfl (lv_at hl 2 rfl) ?_
      refine lv_if_le (tgt := 83) hx hb1 dX3_draw_48 (by decide) (fun c1 => ?_) (fun c1 => ?_)
      · have hq := hq.1 c1
        refine lv_aload_n hx hb1 dX3_draw_83 rfl (lv_at hl 0 rfl) ?_
        refine hh_getr X h fc_9_3 in_X3_draw_X3 kc_9 (by decide) (List.mem_of_getElem? (i := 2) rfl) rfl dX3_draw_84 ?_
        refine lv_iconst (v := (0 : Int32)) hx hb1 dX3_draw_87 (by decide) ?_
        refine lv_dup2_11 hx hb1 dX3_draw_88 rfl rfl ?_
        refine hh_lld X h ac_42 (vp_in_iff.mpr (by decide)) dX3_draw_89 ?_
        refine lv_iload_n hx hb1 dX3_draw_90 rfl (lv_at hl 1 rfl) ?_
        refine lv_iconst (v := (1 : Int32)) hx hb1 dX3_draw_91 (by decide) ?_
        refine lv_isub hx hb1 dX3_draw_92 ?_
        refine lv_i2l (v := ((x1 - (1 : Int32))).toInt64) hx hb1 dX3_draw_93 rfl ?_
        refine lv_lmul hx hb1 dX3_draw_94 ?_
        refine hh_lst X h ac_42 (vp_in_iff.mpr (by decide)) dX3_draw_95 (fun σ2 H locs eσ2 h => ?_)
        have hq := hq σ2 eσ2
        exact hh_vret X h hr hlocks hq dX3_draw_96
      · have hq := hq.2 c1
        refine lv_aload_n hx hb1 dX3_draw_51 rfl (lv_at hl 0 rfl) ?_
        refine hh_getr X h fc_9_3 in_X3_draw_X3 kc_9 (by decide) (List.mem_of_getElem? (i := 2) rfl) rfl dX3_draw_52 ?_
        refine lv_iload_n hx hb1 dX3_draw_55 rfl (lv_at hl 2 rfl) ?_
        refine lv_aload_n hx hb1 dX3_draw_56 rfl (lv_at hl 0 rfl) ?_
        refine hh_getr X h fc_9_3 in_X3_draw_X3 kc_9 (by decide) (List.mem_of_getElem? (i := 2) rfl) rfl dX3_draw_57 ?_
        refine lv_iload_n hx hb1 dX3_draw_60 rfl (lv_at hl 2 rfl) ?_
        obtain ⟨h3, hq⟩ := hq
        refine hh_lld X h ac_42 h3 dX3_draw_61 ?_
        refine lv_iload_n hx hb1 dX3_draw_62 rfl (lv_at hl 1 rfl) ?_
        refine lv_iconst (v := (1 : Int32)) hx hb1 dX3_draw_63 (by decide) ?_
        refine lv_isub hx hb1 dX3_draw_64 ?_
        refine lv_i2l (v := ((x1 - (1 : Int32))).toInt64) hx hb1 dX3_draw_65 rfl ?_
        refine lv_lmul hx hb1 dX3_draw_66 ?_
        refine lv_aload_n hx hb1 dX3_draw_67 rfl (lv_at hl 0 rfl) ?_
        refine hh_getr X h fc_9_3 in_X3_draw_X3 kc_9 (by decide) (List.mem_of_getElem? (i := 2) rfl) rfl dX3_draw_68 ?_
        refine lv_iload_n hx hb1 dX3_draw_71 rfl (lv_at hl 2 rfl) ?_
        refine lv_iconst (v := (1 : Int32)) hx hb1 dX3_draw_72 (by decide) ?_
        refine lv_isub hx hb1 dX3_draw_73 ?_
        obtain ⟨h4, hq⟩ := hq
        refine hh_lld X h ac_42 h4 dX3_draw_74 ?_
        refine lv_ladd hx hb1 dX3_draw_75 ?_
        obtain ⟨h5, hq⟩ := hq
        refine hh_lst X h ac_42 h5 dX3_draw_76 (fun σ6 H locs eσ6 h => ?_)
        have hq := hq σ6 eσ6
        refine lv_iinc (v := (x2 + (-1 : Int32))) (lv' := [(2, .int (x2 + (-1 : Int32))), (0, .ref (ad 9)), (1, .int x1)]) hx hb1 dX3_draw_77 hl (k := 2) rfl rfl (by decide) rfl (fun ls hl => ?_)
        refine lv_goto (tgt := 47) hx hb1 dX3_draw_80 (by decide) ?_
        exact ih (x2 + (-1 : Int32)) σ6 _ _ ls hq h (lv_sub hl [1, 2, 0] rfl)
  subst hargs
  refine hh_entry (vs := [.ref (ad 9), .int x1]) (Nat.le_of_ble_eq_true rfl) (fun ls hl => ?_)
  have hl : lv_has ls 3 [(0, .ref (ad 9)), (1, .int x1)] := hl
  have hq : wp_X3_draw x1 σ Q := hq
  unfold wp_X3_draw at hq
  refine lv_aload_n hx hb1 dX3_draw_0 rfl (lv_at hl 0 rfl) ?_
  refine hh_geti X h (q := 576) fc_9_0 rfl in_X3_draw_X3 kc_9 (by decide) (List.mem_of_getElem? (i := 1) rfl) rfl dX3_draw_1 ?_
  refine lv_bipush (v := (24 : Int32)) hx hb1 dX3_draw_4 (by decide) ?_
  refine lv_icmp_lt (tgt := 10) hx hb1 dX3_draw_6 (by decide) (fun c7 => ?_) (fun c7 => ?_)
  · have hq := hq.1 c7
    refine lv_aload_n hx hb1 dX3_draw_10 rfl (lv_at hl 0 rfl) ?_
    refine lv_dup hx hb1 dX3_draw_11 rfl ?_
    refine hh_geti X h (q := 576) fc_9_0 rfl in_X3_draw_X3 kc_9 (by decide) (List.mem_of_getElem? (i := 1) rfl) rfl dX3_draw_12 ?_
    refine lv_iconst (v := (1 : Int32)) hx hb1 dX3_draw_15 (by decide) ?_
    refine lv_iadd hx hb1 dX3_draw_16 ?_
    refine hh_puti X h (q := 576) hc_n fc_9_0 rfl in_X3_draw_X3 kc_9 tyX3 tyX3_ok nmX3 (by decide) (List.mem_of_getElem? (i := 1) rfl) rfl rfl rfl rfl dX3_draw_17 (fun σ8 H locs eσ8 h => ?_)
    have hq := hq σ8 eσ8
    refine lv_aload_n hx hb1 dX3_draw_20 rfl (lv_at hl 0 rfl) ?_
    refine hh_getr X h fc_9_3 in_X3_draw_X3 kc_9 (by decide) (List.mem_of_getElem? (i := 2) rfl) rfl dX3_draw_21 ?_
    refine lv_aload_n hx hb1 dX3_draw_24 rfl (lv_at hl 0 rfl) ?_
    refine hh_geti X h (q := 576) fc_9_0 rfl in_X3_draw_X3 kc_9 (by decide) (List.mem_of_getElem? (i := 1) rfl) rfl dX3_draw_25 ?_
    refine lv_aload_n hx hb1 dX3_draw_28 rfl (lv_at hl 0 rfl) ?_
    refine hh_getr X h fc_9_3 in_X3_draw_X3 kc_9 (by decide) (List.mem_of_getElem? (i := 2) rfl) rfl dX3_draw_29 ?_
    refine lv_aload_n hx hb1 dX3_draw_32 rfl (lv_at hl 0 rfl) ?_
    refine hh_geti X h (q := 576) fc_9_0 rfl in_X3_draw_X3 kc_9 (by decide) (List.mem_of_getElem? (i := 1) rfl) rfl dX3_draw_33 ?_
    refine lv_iconst (v := (1 : Int32)) hx hb1 dX3_draw_36 (by decide) ?_
    refine lv_isub hx hb1 dX3_draw_37 ?_
    obtain ⟨h9, hq⟩ := hq
    refine hh_lld X h ac_42 h9 dX3_draw_38 ?_
    obtain ⟨h10, hq⟩ := hq
    refine hh_lst X h ac_42 h10 dX3_draw_39 (fun σ11 H locs eσ11 h => ?_)
    have hq := hq σ11 eσ11
    refine lv_aload_n hx hb1 dX3_draw_40 rfl (lv_at hl 0 rfl) ?_
    refine hh_geti X h (q := 576) fc_9_0 rfl in_X3_draw_X3 kc_9 (by decide) (List.mem_of_getElem? (i := 1) rfl) rfl dX3_draw_41 ?_
    refine lv_iconst (v := (1 : Int32)) hx hb1 dX3_draw_44 (by decide) ?_
    refine lv_isub hx hb1 dX3_draw_45 ?_
    refine lv_topi (fun v12 ev12 => ?_)
    have hq := hq v12 ev12
    refine lv_istore_n (lv' := [(2, .int v12), (0, .ref (ad 9)), (1, .int x1)]) hx hb1 dX3_draw_46 rfl hl (by decide) rfl (fun ls hl => ?_)
    obtain ⟨n13, hq⟩ := hq
    exact lt_47 x1 n13 v12 σ11 _ _ ls hq h (lv_sub hl [1, 2, 0] rfl)
  · have hq := hq.2 c7
    exact hh_vret X h hr hlocks hq dX3_draw_9
theorem nd_X3_reduce : yX3_reduce.cls = RX3 ∧ yX3_reduce.cls ≠ "java/lang/invoke/MethodHandle" ∧ yX3_reduce.cls ≠ "java/lang/invoke/VarHandle" ∧ (parseMethodDescriptor yX3_reduce.desc).map (fun d => d.parameters.length) = some 2 := by decide +kernel
abbrev rm_X3_reduce : Room := { frames := 0, cells := 0, slots := 0, locals := 0 }
def wq_X3_reduce_9 (x1 : Int64) (x3 : Int64) (Q : hh_S → Prop) (K9 : Int64 → Int64 → Int32 → hh_S → Prop) (x5 : Int64) (x7 : Int64) (x9 : Int32) (σ : hh_S) : Prop := (((200 : Int32) ≤ x9 → (((lg_cmp x5 (0 : Int64)) ≤ 0 → (Q σ)) ∧ (¬ (lg_cmp x5 (0 : Int64)) ≤ 0 → ((¬ x5 = 0) ∧ (∀ σ4 : hh_S, σ4 = hh_uL σ 577 (x1 / x5) → ((¬ x5 = 0) ∧ (∀ σ6 : hh_S, σ6 = hh_uL σ4 578 (x3 / x5) → (Q σ6)))))))) ∧ (¬ (200 : Int32) ≤ x9 → (((lg_cmp x7 (0 : Int64)) = 0 → (((lg_cmp x5 (0 : Int64)) ≤ 0 → (Q σ)) ∧ (¬ (lg_cmp x5 (0 : Int64)) ≤ 0 → ((¬ x5 = 0) ∧ (∀ σ10 : hh_S, σ10 = hh_uL σ 577 (x1 / x5) → ((¬ x5 = 0) ∧ (∀ σ12 : hh_S, σ12 = hh_uL σ10 578 (x3 / x5) → (Q σ12)))))))) ∧ (¬ (lg_cmp x7 (0 : Int64)) = 0 → ((¬ x7 = 0) ∧ (∀ v14 : Int64, v14 = (x5 - x5 / x7 * x7) → (K9 x7 v14 (x9 + (1 : Int32)) σ)))))))
def wp_X3_reduce (x1 : Int64) (x3 : Int64) (σ : hh_S) (Q : hh_S → Prop) : Prop := (∃ n : Nat, hh_lp3 (wq_X3_reduce_9 x1 x3 Q) n x3 x1 (0 : Int32) σ)
theorem in_X3_reduce_X3 : ∀ w ∈ u_ws RX3 TX3 4, w ∈ wsX3_reduce := fun w h => List.mem_cons_of_mem _ (List.mem_append_right _ h)
set_option maxHeartbeats 4000000 in
set_option maxRecDepth 100000 in
theorem ad_X3_reduce {D : va_G} (l : Launch) {cy : Nat → ClassId} {ad : Nat → Nat} (J : hh_J hc_Y ad) (x1 : Int64) (x3 : Int64) (σ : hh_S) (Q : hh_S → Prop) (hq : wp_X3_reduce x1 x3 σ Q) : Met l yX3_reduce wsX3_reduce rm_X3_reduce (va_Pc [.ref (ad 9), .long x1, .long x3] (hh_B D hh_cl hc_Y cy ad σ)) (va_Qv Q (hh_B D hh_cl hc_Y cy ad) (hh_A hc_Y ad)) 0 0 (hh_A hc_Y ad) := by
  refine Met.ofW (cc := cX3_reduce) (maxL := 12) (ret := none) (by decide) rfl ?_
  intro p e s m args below meth c s₁ B hml hv
  obtain ⟨hargs, hP0, hK0⟩ := hv
  have hr := B.returns
  have hlocks := B.notSynchronized
  have X : hh_X p m c cX3_reduce 12 s args wsX3_reduce RX3 D hh_cl hc_Y cy ad := ⟨⟨B.exec, B.bytes, hml, findClass_of_methodNamed B.named, atoms_spec (ws := wsX3_reduce) B.pre⟩, hK0, J⟩
  have hx := X.1.1
  have hb1 := X.1.2.1
  have h : hh_H D hh_cl hc_Y cy ad s.heap σ s.heap [] := ⟨hP0, va_S.rf⟩
  have lt_9 : ∀ (x1 : Int64) (x3 : Int64) (n : Nat) (x5 : Int64) (x7 : Int64) (x9 : Int32) (σ : hh_S) (H : Heap) (locs : List Loc) (ls : Array Slot), hh_lp3 (wq_X3_reduce_9 x1 x3 Q) n x5 x7 x9 σ → hh_H D hh_cl hc_Y cy ad s.heap σ H locs → lv_has ls 12 [(0, .ref (ad 9)), (1, .long x1), (3, .long x3), (5, .long x5), (7, .long x7), (9, .int x9)] → W p l e (headSpec wsX3_reduce rm_X3_reduce).room s m args below meth c H locs 0 0 (MQ below (va_Qv Q (hh_B D hh_cl hc_Y cy ad) (hh_A hc_Y ad)) args s 0 0 (hh_A hc_Y ad)) (F0 m 9 ls []) := by
    intro x1 x3 n
    induction n with
    | zero => intro x5 x7 x9 σ H locs ls hq h hl; exact hq.elim
    | succ n ih =>
      intro x5 x7 x9 σ H locs ls hq h hl
      have hq : wq_X3_reduce_9 x1 x3 Q (hh_lp3 (wq_X3_reduce_9 x1 x3 Q) n) x5 x7 x9 σ := hq
      unfold wq_X3_reduce_9 at hq
      refine lv_iload hx hb1 dX3_reduce_9 (lv_at hl 5 rfl) ?_
      refine lv_sipush (v := (200 : Int32)) hx hb1 dX3_reduce_11 (by decide) ?_
      refine lv_icmp_ge (tgt := 45) hx hb1 dX3_reduce_14 (by decide) (fun c1 => ?_) (fun c1 => ?_)
      · have hq := hq.1 c1
        refine lv_lload hx hb1 dX3_reduce_45 (lv_at hl 3 rfl) ?_
        refine lv_lconst (v := (0 : Int64)) hx hb1 dX3_reduce_47 (by decide) ?_
        refine W.lcmp hx hb1 dX3_reduce_48 ?_
        refine lv_if_le (tgt := 68) hx hb1 dX3_reduce_49 (by decide) (fun c2 => ?_) (fun c2 => ?_)
        · have hq := hq.1 c2
          exact hh_vret X h hr hlocks hq dX3_reduce_68
        · have hq := hq.2 c2
          refine lv_aload_n hx hb1 dX3_reduce_52 rfl (lv_at hl 0 rfl) ?_
          refine lv_lload_n hx hb1 dX3_reduce_53 rfl (lv_at hl 1 rfl) ?_
          refine lv_lload hx hb1 dX3_reduce_54 (lv_at hl 3 rfl) ?_
          obtain ⟨h3, hq⟩ := hq
          refine lv_ldiv hx hb1 dX3_reduce_56 h3 ?_
          refine hh_putl X h (q := 577) hc_n fc_9_1 rfl in_X3_reduce_X3 kc_9 tyX3 tyX3_ok nmX3 (by decide) (List.mem_of_getElem? (i := 1) rfl) rfl rfl rfl rfl dX3_reduce_57 (fun σ4 H locs eσ4 h => ?_)
          have hq := hq σ4 eσ4
          refine lv_aload_n hx hb1 dX3_reduce_60 rfl (lv_at hl 0 rfl) ?_
          refine lv_lload_n hx hb1 dX3_reduce_61 rfl (lv_at hl 2 rfl) ?_
          refine lv_lload hx hb1 dX3_reduce_62 (lv_at hl 3 rfl) ?_
          obtain ⟨h5, hq⟩ := hq
          refine lv_ldiv hx hb1 dX3_reduce_64 h5 ?_
          refine hh_putl X h (q := 578) hc_n fc_9_2 rfl in_X3_reduce_X3 kc_9 tyX3 tyX3_ok nmX3 (by decide) (List.mem_of_getElem? (i := 2) rfl) rfl rfl rfl rfl dX3_reduce_65 (fun σ6 H locs eσ6 h => ?_)
          have hq := hq σ6 eσ6
          exact hh_vret X h hr hlocks hq dX3_reduce_68
      · have hq := hq.2 c1
        refine lv_lload hx hb1 dX3_reduce_17 (lv_at hl 4 rfl) ?_
        refine lv_lconst (v := (0 : Int64)) hx hb1 dX3_reduce_19 (by decide) ?_
        refine W.lcmp hx hb1 dX3_reduce_20 ?_
        refine lv_if_eq (tgt := 45) hx hb1 dX3_reduce_21 (by decide) (fun c7 => ?_) (fun c7 => ?_)
        · have hq := hq.1 c7
          refine lv_lload hx hb1 dX3_reduce_45 (lv_at hl 3 rfl) ?_
          refine lv_lconst (v := (0 : Int64)) hx hb1 dX3_reduce_47 (by decide) ?_
          refine W.lcmp hx hb1 dX3_reduce_48 ?_
          refine lv_if_le (tgt := 68) hx hb1 dX3_reduce_49 (by decide) (fun c8 => ?_) (fun c8 => ?_)
          · have hq := hq.1 c8
            exact hh_vret X h hr hlocks hq dX3_reduce_68
          · have hq := hq.2 c8
            refine lv_aload_n hx hb1 dX3_reduce_52 rfl (lv_at hl 0 rfl) ?_
            refine lv_lload_n hx hb1 dX3_reduce_53 rfl (lv_at hl 1 rfl) ?_
            refine lv_lload hx hb1 dX3_reduce_54 (lv_at hl 3 rfl) ?_
            obtain ⟨h9, hq⟩ := hq
            refine lv_ldiv hx hb1 dX3_reduce_56 h9 ?_
            refine hh_putl X h (q := 577) hc_n fc_9_1 rfl in_X3_reduce_X3 kc_9 tyX3 tyX3_ok nmX3 (by decide) (List.mem_of_getElem? (i := 1) rfl) rfl rfl rfl rfl dX3_reduce_57 (fun σ10 H locs eσ10 h => ?_)
            have hq := hq σ10 eσ10
            refine lv_aload_n hx hb1 dX3_reduce_60 rfl (lv_at hl 0 rfl) ?_
            refine lv_lload_n hx hb1 dX3_reduce_61 rfl (lv_at hl 2 rfl) ?_
            refine lv_lload hx hb1 dX3_reduce_62 (lv_at hl 3 rfl) ?_
            obtain ⟨h11, hq⟩ := hq
            refine lv_ldiv hx hb1 dX3_reduce_64 h11 ?_
            refine hh_putl X h (q := 578) hc_n fc_9_2 rfl in_X3_reduce_X3 kc_9 tyX3 tyX3_ok nmX3 (by decide) (List.mem_of_getElem? (i := 2) rfl) rfl rfl rfl rfl dX3_reduce_65 (fun σ12 H locs eσ12 h => ?_)
            have hq := hq σ12 eσ12
            exact hh_vret X h hr hlocks hq dX3_reduce_68
        · have hq := hq.2 c7
          refine lv_lload hx hb1 dX3_reduce_24 (lv_at hl 3 rfl) ?_
          refine lv_lload hx hb1 dX3_reduce_26 (lv_at hl 4 rfl) ?_
          obtain ⟨h13, hq⟩ := hq
          refine lv_lrem hx hb1 dX3_reduce_28 h13 ?_
          refine lv_topl (fun v14 ev14 => ?_)
          have hq := hq v14 ev14
          refine lv_lstore (lv' := [(10, .long v14), (0, .ref (ad 9)), (1, .long x1), (3, .long x3), (5, .long x5), (7, .long x7), (9, .int x9)]) hx hb1 dX3_reduce_29 hl (by decide) rfl (fun ls hl => ?_)
          refine lv_lload hx hb1 dX3_reduce_31 (lv_at hl 5 rfl) ?_
          refine lv_lstore (lv' := [(5, .long x7), (10, .long v14), (0, .ref (ad 9)), (1, .long x1), (3, .long x3), (7, .long x7), (9, .int x9)]) hx hb1 dX3_reduce_33 hl (by decide) rfl (fun ls hl => ?_)
          refine lv_lload hx hb1 dX3_reduce_35 (lv_at hl 1 rfl) ?_
          refine lv_lstore (lv' := [(7, .long v14), (5, .long x7), (10, .long v14), (0, .ref (ad 9)), (1, .long x1), (3, .long x3), (9, .int x9)]) hx hb1 dX3_reduce_37 hl (by decide) rfl (fun ls hl => ?_)
          refine lv_iinc (v := (x9 + (1 : Int32))) (lv' := [(9, .int (x9 + (1 : Int32))), (7, .long v14), (5, .long x7), (10, .long v14), (0, .ref (ad 9)), (1, .long x1), (3, .long x3)]) hx hb1 dX3_reduce_39 hl (k := 6) rfl rfl (by decide) rfl (fun ls hl => ?_)
          refine lv_goto (tgt := 9) hx hb1 dX3_reduce_42 (by decide) ?_
          exact ih x7 v14 (x9 + (1 : Int32)) σ _ _ ls hq h (lv_sub hl [4, 5, 6, 2, 1, 0] rfl)
  subst hargs
  refine hh_entry (vs := [.ref (ad 9), .long x1, .long x3]) (Nat.le_of_ble_eq_true rfl) (fun ls hl => ?_)
  have hl : lv_has ls 12 [(0, .ref (ad 9)), (1, .long x1), (3, .long x3)] := hl
  have hq : wp_X3_reduce x1 x3 σ Q := hq
  unfold wp_X3_reduce at hq
  refine lv_lload_n hx hb1 dX3_reduce_0 rfl (lv_at hl 2 rfl) ?_
  refine lv_lstore (lv' := [(5, .long x3), (0, .ref (ad 9)), (1, .long x1), (3, .long x3)]) hx hb1 dX3_reduce_1 hl (by decide) rfl (fun ls hl => ?_)
  refine lv_lload_n hx hb1 dX3_reduce_3 rfl (lv_at hl 2 rfl) ?_
  refine lv_lstore (lv' := [(7, .long x1), (5, .long x3), (0, .ref (ad 9)), (1, .long x1), (3, .long x3)]) hx hb1 dX3_reduce_4 hl (by decide) rfl (fun ls hl => ?_)
  refine lv_iconst (v := (0 : Int32)) hx hb1 dX3_reduce_6 (by decide) ?_
  refine lv_istore (lv' := [(9, .int (0 : Int32)), (7, .long x1), (5, .long x3), (0, .ref (ad 9)), (1, .long x1), (3, .long x3)]) hx hb1 dX3_reduce_7 hl (by decide) rfl (fun ls hl => ?_)
  obtain ⟨n15, hq⟩ := hq
  exact lt_9 x1 x3 n15 x3 x1 (0 : Int32) σ _ _ ls hq h (lv_sub hl [3, 4, 5, 2, 1, 0] rfl)
theorem nd_X3_hitAtLeast : yX3_hitAtLeast.cls = RX3 ∧ yX3_hitAtLeast.cls ≠ "java/lang/invoke/MethodHandle" ∧ yX3_hitAtLeast.cls ≠ "java/lang/invoke/VarHandle" ∧ (parseMethodDescriptor yX3_hitAtLeast.desc).map (fun d => d.parameters.length) = some 1 := by decide +kernel
abbrev rm_X3_hitAtLeast : Room := { frames := 1, cells := 0, slots := 0, locals := 31 }
def wq_X3_hitAtLeast_8 (x1 : Int32) (Q : hh_S → Prop) (K8 : Int64 → Int64 → Int32 → hh_S → Prop) (x2 : Int64) (x4 : Int64) (x6 : Int32) (σ : hh_S) : Prop := (((hh_I σ 576) < x6 → (wp_X3_reduce x2 x4 σ (fun (σ3 : hh_S) => (Q σ3)))) ∧ (¬ (hh_I σ 576) < x6 → (vp_in x6 25 ∧ (∀ v5 : Int64, v5 = (x4 + (hh_rB σ 42 x6)) → ((x6 < x1 → (∀ v7 : Int64, v7 = (x2 + (0 : Int64)) → (K8 v7 v5 (x6 + (1 : Int32)) σ))) ∧ (¬ x6 < x1 → (vp_in x6 25 ∧ (∀ v9 : Int64, v9 = (x2 + (hh_rB σ 42 x6)) → (K8 v9 v5 (x6 + (1 : Int32)) σ)))))))))
def wp_X3_hitAtLeast (x1 : Int32) (σ : hh_S) (Q : hh_S → Prop) : Prop := (∃ n : Nat, hh_lp3 (wq_X3_hitAtLeast_8 x1 Q) n (0 : Int64) (0 : Int64) (0 : Int32) σ)
theorem in_X3_hitAtLeast_X3 : ∀ w ∈ u_ws RX3 TX3 4, w ∈ wsX3_hitAtLeast := fun w h => List.mem_cons_of_mem _ (List.mem_append_right _ h)
set_option maxHeartbeats 4000000 in
set_option maxRecDepth 100000 in
theorem ad_X3_hitAtLeast {D : va_G} (l : Launch) {cy : Nat → ClassId} {ad : Nat → Nat} (J : hh_J hc_Y ad) (x1 : Int32) (σ : hh_S) (Q : hh_S → Prop) (hq : wp_X3_hitAtLeast x1 σ Q) : Met l yX3_hitAtLeast wsX3_hitAtLeast rm_X3_hitAtLeast (va_Pc [.ref (ad 9), .int x1] (hh_B D hh_cl hc_Y cy ad σ)) (va_Qv Q (hh_B D hh_cl hc_Y cy ad) (hh_A hc_Y ad)) 0 0 (hh_A hc_Y ad) := by
  refine Met.ofW (cc := cX3_hitAtLeast) (maxL := 7) (ret := none) (by decide) rfl ?_
  intro p e s m args below meth c s₁ B hml hv
  obtain ⟨hargs, hP0, hK0⟩ := hv
  have hr := B.returns
  have hlocks := B.notSynchronized
  have X : hh_X p m c cX3_hitAtLeast 7 s args wsX3_hitAtLeast RX3 D hh_cl hc_Y cy ad := ⟨⟨B.exec, B.bytes, hml, findClass_of_methodNamed B.named, atoms_spec (ws := wsX3_hitAtLeast) B.pre⟩, hK0, J⟩
  have hx := X.1.1
  have hb1 := X.1.2.1
  have h : hh_H D hh_cl hc_Y cy ad s.heap σ s.heap [] := ⟨hP0, va_S.rf⟩
  have lt_8 : ∀ (x1 : Int32) (n : Nat) (x2 : Int64) (x4 : Int64) (x6 : Int32) (σ : hh_S) (H : Heap) (locs : List Loc) (ls : Array Slot), hh_lp3 (wq_X3_hitAtLeast_8 x1 Q) n x2 x4 x6 σ → hh_H D hh_cl hc_Y cy ad s.heap σ H locs → lv_has ls 7 [(0, .ref (ad 9)), (1, .int x1), (2, .long x2), (4, .long x4), (6, .int x6)] → W p l e (headSpec wsX3_hitAtLeast rm_X3_hitAtLeast).room s m args below meth c H locs 0 0 (MQ below (va_Qv Q (hh_B D hh_cl hc_Y cy ad) (hh_A hc_Y ad)) args s 0 0 (hh_A hc_Y ad)) (F0 m 8 ls []) := by
    intro x1 n
    induction n with
    | zero => intro x2 x4 x6 σ H locs ls hq h hl; exact hq.elim
    | succ n ih =>
      intro x2 x4 x6 σ H locs ls hq h hl
      have hq : wq_X3_hitAtLeast_8 x1 Q (hh_lp3 (wq_X3_hitAtLeast_8 x1 Q) n) x2 x4 x6 σ := hq
      unfold wq_X3_hitAtLeast_8 at hq
      refine lv_iload hx hb1 dX3_hitAtLeast_8 (lv_at hl 4 rfl) ?_
      refine lv_aload_n hx hb1 dX3_hitAtLeast_10 rfl (lv_at hl 0 rfl) ?_
      refine hh_geti X h (q := 576) fc_9_0 rfl in_X3_hitAtLeast_X3 kc_9 (by decide) (List.mem_of_getElem? (i := 1) rfl) rfl dX3_hitAtLeast_11 ?_
      refine lv_icmp_gt (tgt := 55) hx hb1 dX3_hitAtLeast_14 (by decide) (fun c1 => ?_) (fun c1 => ?_)
      · have hq := hq.1 c1
        refine lv_aload_n hx hb1 dX3_hitAtLeast_55 rfl (lv_at hl 0 rfl) ?_
        refine lv_lload_n hx hb1 dX3_hitAtLeast_56 rfl (lv_at hl 2 rfl) ?_
        refine lv_lload hx hb1 dX3_hitAtLeast_57 (lv_at hl 3 rfl) ?_
        refine hh_kV h (va_runV (As := [.long x2, .long x4]) (rest := []) X.1 (ad_X3_reduce (D := D) l J x2 x4 σ _ hq) (cwV 2 X.1.2.2.2.2 gX3_hitAtLeast_X3_reduce rfl rfl rfl nd_X3_reduce ⟨Nat.le_of_ble_eq_true rfl, Nat.le_of_ble_eq_true rfl⟩) (hh_preV X h fc_9_0 kc_9 [.long x2, .long x4]) rfl rfl hl.1 rfl (lv_room (Nat.le_of_ble_eq_true rfl)) dX3_hitAtLeast_59 ⟨Nat.le_of_ble_eq_true rfl, Nat.le_of_ble_eq_true rfl⟩) (fun σ3 H locs hq h => ?_)
        exact hh_vret X h hr hlocks hq dX3_hitAtLeast_62
      · have hq := hq.2 c1
        refine lv_lload hx hb1 dX3_hitAtLeast_17 (lv_at hl 3 rfl) ?_
        refine lv_aload_n hx hb1 dX3_hitAtLeast_19 rfl (lv_at hl 0 rfl) ?_
        refine hh_getr X h fc_9_3 in_X3_hitAtLeast_X3 kc_9 (by decide) (List.mem_of_getElem? (i := 2) rfl) rfl dX3_hitAtLeast_20 ?_
        refine lv_iload hx hb1 dX3_hitAtLeast_23 (lv_at hl 4 rfl) ?_
        obtain ⟨h4, hq⟩ := hq
        refine hh_lld X h ac_42 h4 dX3_hitAtLeast_25 ?_
        refine lv_ladd hx hb1 dX3_hitAtLeast_26 ?_
        refine lv_topl (fun v5 ev5 => ?_)
        have hq := hq v5 ev5
        refine lv_lstore (lv' := [(4, .long v5), (0, .ref (ad 9)), (1, .int x1), (2, .long x2), (6, .int x6)]) hx hb1 dX3_hitAtLeast_27 hl (by decide) rfl (fun ls hl => ?_)
        refine lv_lload_n hx hb1 dX3_hitAtLeast_29 rfl (lv_at hl 3 rfl) ?_
        refine lv_iload hx hb1 dX3_hitAtLeast_30 (lv_at hl 4 rfl) ?_
        refine lv_iload_n hx hb1 dX3_hitAtLeast_32 rfl (lv_at hl 2 rfl) ?_
        refine lv_icmp_lt (tgt := 46) hx hb1 dX3_hitAtLeast_33 (by decide) (fun c6 => ?_) (fun c6 => ?_)
        · have hq := hq.1 c6
          refine lv_lconst (v := (0 : Int64)) hx hb1 dX3_hitAtLeast_46 (by decide) ?_
          refine lv_ladd hx hb1 dX3_hitAtLeast_47 ?_
          refine lv_topl (fun v7 ev7 => ?_)
          have hq := hq v7 ev7
          refine lv_lstore_n (lv' := [(2, .long v7), (4, .long v5), (0, .ref (ad 9)), (1, .int x1), (6, .int x6)]) hx hb1 dX3_hitAtLeast_48 rfl hl (by decide) rfl (fun ls hl => ?_)
          refine lv_iinc (v := (x6 + (1 : Int32))) (lv' := [(6, .int (x6 + (1 : Int32))), (2, .long v7), (4, .long v5), (0, .ref (ad 9)), (1, .int x1)]) hx hb1 dX3_hitAtLeast_49 hl (k := 4) rfl rfl (by decide) rfl (fun ls hl => ?_)
          refine lv_goto (tgt := 8) hx hb1 dX3_hitAtLeast_52 (by decide) ?_
          exact ih v7 v5 (x6 + (1 : Int32)) σ _ _ ls hq h (lv_sub hl [3, 4, 1, 2, 0] rfl)
        · have hq := hq.2 c6
          refine lv_aload_n hx hb1 dX3_hitAtLeast_36 rfl (lv_at hl 1 rfl) ?_
          refine hh_getr X h fc_9_3 in_X3_hitAtLeast_X3 kc_9 (by decide) (List.mem_of_getElem? (i := 2) rfl) rfl dX3_hitAtLeast_37 ?_
          refine lv_iload hx hb1 dX3_hitAtLeast_40 (lv_at hl 4 rfl) ?_
          obtain ⟨h8, hq⟩ := hq
          refine hh_lld X h ac_42 h8 dX3_hitAtLeast_42 ?_
          refine lv_goto (tgt := 47) hx hb1 dX3_hitAtLeast_43 (by decide) ?_
          refine lv_ladd hx hb1 dX3_hitAtLeast_47 ?_
          refine lv_topl (fun v9 ev9 => ?_)
          have hq := hq v9 ev9
          refine lv_lstore_n (lv' := [(2, .long v9), (4, .long v5), (0, .ref (ad 9)), (1, .int x1), (6, .int x6)]) hx hb1 dX3_hitAtLeast_48 rfl hl (by decide) rfl (fun ls hl => ?_)
          refine lv_iinc (v := (x6 + (1 : Int32))) (lv' := [(6, .int (x6 + (1 : Int32))), (2, .long v9), (4, .long v5), (0, .ref (ad 9)), (1, .int x1)]) hx hb1 dX3_hitAtLeast_49 hl (k := 4) rfl rfl (by decide) rfl (fun ls hl => ?_)
          refine lv_goto (tgt := 8) hx hb1 dX3_hitAtLeast_52 (by decide) ?_
          exact ih v9 v5 (x6 + (1 : Int32)) σ _ _ ls hq h (lv_sub hl [3, 4, 1, 2, 0] rfl)
  subst hargs
  refine hh_entry (vs := [.ref (ad 9), .int x1]) (Nat.le_of_ble_eq_true rfl) (fun ls hl => ?_)
  have hl : lv_has ls 7 [(0, .ref (ad 9)), (1, .int x1)] := hl
  have hq : wp_X3_hitAtLeast x1 σ Q := hq
  unfold wp_X3_hitAtLeast at hq
  refine lv_lconst (v := (0 : Int64)) hx hb1 dX3_hitAtLeast_0 (by decide) ?_
  refine lv_lstore_n (lv' := [(2, .long (0 : Int64)), (0, .ref (ad 9)), (1, .int x1)]) hx hb1 dX3_hitAtLeast_1 rfl hl (by decide) rfl (fun ls hl => ?_)
  refine lv_lconst (v := (0 : Int64)) hx hb1 dX3_hitAtLeast_2 (by decide) ?_
  refine lv_lstore (lv' := [(4, .long (0 : Int64)), (2, .long (0 : Int64)), (0, .ref (ad 9)), (1, .int x1)]) hx hb1 dX3_hitAtLeast_3 hl (by decide) rfl (fun ls hl => ?_)
  refine lv_iconst (v := (0 : Int32)) hx hb1 dX3_hitAtLeast_5 (by decide) ?_
  refine lv_istore (lv' := [(6, .int (0 : Int32)), (4, .long (0 : Int64)), (2, .long (0 : Int64)), (0, .ref (ad 9)), (1, .int x1)]) hx hb1 dX3_hitAtLeast_6 hl (by decide) rfl (fun ls hl => ?_)
  obtain ⟨n10, hq⟩ := hq
  exact lt_8 x1 n10 (0 : Int64) (0 : Int64) (0 : Int32) σ _ _ ls hq h (lv_sub hl [3, 4, 2, 1, 0] rfl)
theorem nd_X3_choose : yX3_choose.cls ≠ "java/lang/invoke/MethodHandle" ∧ yX3_choose.cls ≠ "java/lang/invoke/VarHandle" ∧ (parseMethodDescriptor yX3_choose.desc).map (fun d => d.parameters.length) = some 2 := by decide +kernel
abbrev rm_X3_choose : Room := { frames := 0, cells := 0, slots := 0, locals := 0 }
def wq_X3_choose_16 (x0 : Int32) (x1 : Int32) (Q : Int64 → hh_S → Prop) (K16 : Int64 → Int32 → hh_S → Prop) (x2 : Int64) (x4 : Int32) (σ : hh_S) : Prop := ((x1 < x4 → (Q x2 σ)) ∧ (¬ x1 < x4 → ((¬ (x4.toInt64) = 0) ∧ (∀ v3 : Int64, v3 = ((x2 * (((x0 - x1) + x4).toInt64)) / (x4.toInt64)) → (K16 v3 (x4 + (1 : Int32)) σ)))))
def wp_X3_choose (x0 : Int32) (x1 : Int32) (σ : hh_S) (Q : Int64 → hh_S → Prop) : Prop := ((x1 < 0 → (Q (0 : Int64) σ)) ∧ (¬ x1 < 0 → ((x1 ≤ x0 → (∃ n : Nat, hh_lp2 (wq_X3_choose_16 x0 x1 Q) n (1 : Int64) (1 : Int32) σ)) ∧ (¬ x1 ≤ x0 → (Q (0 : Int64) σ)))))
set_option maxHeartbeats 4000000 in
set_option maxRecDepth 100000 in
theorem ad_X3_choose {D : va_G} (l : Launch) {cy : Nat → ClassId} {ad : Nat → Nat} (J : hh_J hc_Y ad) (x0 : Int32) (x1 : Int32) (σ : hh_S) (Q : Int64 → hh_S → Prop) (hq : wp_X3_choose x0 x1 σ Q) : Met l yX3_choose wsX3_choose rm_X3_choose (va_Pc [.int x0, .int x1] (hh_B D hh_cl hc_Y cy ad σ)) (va_Ql Q (hh_B D hh_cl hc_Y cy ad) (hh_A hc_Y ad)) 0 0 (hh_A hc_Y ad) := by
  refine Met.ofW (cc := cX3_choose) (maxL := 5) (ret := (some .long)) (by decide) rfl ?_
  intro p e s m args below meth c s₁ B hml hv
  obtain ⟨hargs, hP0, hK0⟩ := hv
  have hr := B.returns
  have hlocks := B.notSynchronized
  have X : hh_X p m c cX3_choose 5 s args wsX3_choose RX3 D hh_cl hc_Y cy ad := ⟨⟨B.exec, B.bytes, hml, findClass_of_methodNamed B.named, atoms_spec (ws := wsX3_choose) B.pre⟩, hK0, J⟩
  have hx := X.1.1
  have hb1 := X.1.2.1
  have h : hh_H D hh_cl hc_Y cy ad s.heap σ s.heap [] := ⟨hP0, va_S.rf⟩
  have lt_16 : ∀ (x0 : Int32) (x1 : Int32) (n : Nat) (x2 : Int64) (x4 : Int32) (σ : hh_S) (H : Heap) (locs : List Loc) (ls : Array Slot), hh_lp2 (wq_X3_choose_16 x0 x1 Q) n x2 x4 σ → hh_H D hh_cl hc_Y cy ad s.heap σ H locs → lv_has ls 5 [(0, .int x0), (1, .int x1), (2, .long x2), (4, .int x4)] → W p l e (headSpec wsX3_choose rm_X3_choose).room s m args below meth c H locs 0 0 (MQ below (va_Ql Q (hh_B D hh_cl hc_Y cy ad) (hh_A hc_Y ad)) args s 0 0 (hh_A hc_Y ad)) (F0 m 16 ls []) := by
    intro x0 x1 n
    induction n with
    | zero => intro x2 x4 σ H locs ls hq h hl; exact hq.elim
    | succ n ih =>
      intro x2 x4 σ H locs ls hq h hl
      have hq : wq_X3_choose_16 x0 x1 Q (hh_lp2 (wq_X3_choose_16 x0 x1 Q) n) x2 x4 σ := hq
      unfold wq_X3_choose_16 at hq
      refine lv_iload hx hb1 dX3_choose_16 (lv_at hl 3 rfl) ?_
      refine lv_iload_n hx hb1 dX3_choose_18 rfl (lv_at hl 1 rfl) ?_
      refine lv_icmp_gt (tgt := 42) hx hb1 dX3_choose_19 (by decide) (fun c1 => ?_) (fun c1 => ?_)
      · have hq := hq.1 c1
        refine lv_lload_n hx hb1 dX3_choose_42 rfl (lv_at hl 2 rfl) ?_
        exact hh_lret X h hr hlocks hq dX3_choose_43
      · have hq := hq.2 c1
        refine lv_lload_n hx hb1 dX3_choose_22 rfl (lv_at hl 2 rfl) ?_
        refine lv_iload_n hx hb1 dX3_choose_23 rfl (lv_at hl 0 rfl) ?_
        refine lv_iload_n hx hb1 dX3_choose_24 rfl (lv_at hl 1 rfl) ?_
        refine lv_isub hx hb1 dX3_choose_25 ?_
        refine lv_iload hx hb1 dX3_choose_26 (lv_at hl 3 rfl) ?_
        refine lv_iadd hx hb1 dX3_choose_28 ?_
        refine lv_i2l (v := (((x0 - x1) + x4)).toInt64) hx hb1 dX3_choose_29 rfl ?_
        refine lv_lmul hx hb1 dX3_choose_30 ?_
        refine lv_iload hx hb1 dX3_choose_31 (lv_at hl 3 rfl) ?_
        refine lv_i2l (v := (x4).toInt64) hx hb1 dX3_choose_33 rfl ?_
        obtain ⟨h2, hq⟩ := hq
        refine lv_ldiv hx hb1 dX3_choose_34 h2 ?_
        refine lv_topl (fun v3 ev3 => ?_)
        have hq := hq v3 ev3
        refine lv_lstore_n (lv' := [(2, .long v3), (0, .int x0), (1, .int x1), (4, .int x4)]) hx hb1 dX3_choose_35 rfl hl (by decide) rfl (fun ls hl => ?_)
        refine lv_iinc (v := (x4 + (1 : Int32))) (lv' := [(4, .int (x4 + (1 : Int32))), (2, .long v3), (0, .int x0), (1, .int x1)]) hx hb1 dX3_choose_36 hl (k := 3) rfl rfl (by decide) rfl (fun ls hl => ?_)
        refine lv_goto (tgt := 16) hx hb1 dX3_choose_39 (by decide) ?_
        exact ih v3 (x4 + (1 : Int32)) σ _ _ ls hq h (lv_sub hl [2, 3, 1, 0] rfl)
  subst hargs
  refine hh_entry (vs := [.int x0, .int x1]) (Nat.le_of_ble_eq_true rfl) (fun ls hl => ?_)
  have hl : lv_has ls 5 [(0, .int x0), (1, .int x1)] := hl
  have hq : wp_X3_choose x0 x1 σ Q := hq
  unfold wp_X3_choose at hq
  refine lv_iload_n hx hb1 dX3_choose_0 rfl (lv_at hl 1 rfl) ?_
  refine lv_if_lt (tgt := 9) hx hb1 dX3_choose_1 (by decide) (fun c4 => ?_) (fun c4 => ?_)
  · have hq := hq.1 c4
    refine lv_lconst (v := (0 : Int64)) hx hb1 dX3_choose_9 (by decide) ?_
    exact hh_lret X h hr hlocks hq dX3_choose_10
  · have hq := hq.2 c4
    refine lv_iload_n hx hb1 dX3_choose_4 rfl (lv_at hl 1 rfl) ?_
    refine lv_iload_n hx hb1 dX3_choose_5 rfl (lv_at hl 0 rfl) ?_
    refine lv_icmp_le (tgt := 11) hx hb1 dX3_choose_6 (by decide) (fun c5 => ?_) (fun c5 => ?_)
    · have hq := hq.1 c5
      refine lv_lconst (v := (1 : Int64)) hx hb1 dX3_choose_11 (by decide) ?_
      refine lv_lstore_n (lv' := [(2, .long (1 : Int64)), (0, .int x0), (1, .int x1)]) hx hb1 dX3_choose_12 rfl hl (by decide) rfl (fun ls hl => ?_)
      refine lv_iconst (v := (1 : Int32)) hx hb1 dX3_choose_13 (by decide) ?_
      refine lv_istore (lv' := [(4, .int (1 : Int32)), (2, .long (1 : Int64)), (0, .int x0), (1, .int x1)]) hx hb1 dX3_choose_14 hl (by decide) rfl (fun ls hl => ?_)
      obtain ⟨n6, hq⟩ := hq
      exact lt_16 x0 x1 n6 (1 : Int64) (1 : Int32) σ _ _ ls hq h (lv_sub hl [2, 3, 1, 0] rfl)
    · have hq := hq.2 c5
      refine lv_lconst (v := (0 : Int64)) hx hb1 dX3_choose_9 (by decide) ?_
      exact hh_lret X h hr hlocks hq dX3_choose_10
theorem nd_X3_dealtAtLeast : yX3_dealtAtLeast.cls = RX3 ∧ yX3_dealtAtLeast.cls ≠ "java/lang/invoke/MethodHandle" ∧ yX3_dealtAtLeast.cls ≠ "java/lang/invoke/VarHandle" ∧ (parseMethodDescriptor yX3_dealtAtLeast.desc).map (fun d => d.parameters.length) = some 4 := by decide +kernel
abbrev rm_X3_dealtAtLeast : Room := { frames := 1, cells := 0, slots := 0, locals := 31 }
def wq_X3_dealtAtLeast_7 (x1 : Int32) (x2 : Int32) (x3 : Int32) (Q : hh_S → Prop) (K7 : Int64 → Int32 → hh_S → Prop) (x5 : Int64) (x7 : Int32) (σ : hh_S) : Prop := ((x3 < x7 → (wp_X3_choose x1 x2 σ (fun (r2 : Int64) (σ3 : hh_S) => (wp_X3_reduce x5 r2 σ3 (fun (σ5 : hh_S) => (Q σ5)))))) ∧ (¬ x3 < x7 → (wp_X3_choose x3 x7 σ (fun (r6 : Int64) (σ7 : hh_S) => (wp_X3_choose (x1 - x3) (x2 - x7) σ7 (fun (r8 : Int64) (σ9 : hh_S) => (∀ v10 : Int64, v10 = (x5 + (r6 * r8)) → (K7 v10 (x7 + (1 : Int32)) σ9))))))))
def wp_X3_dealtAtLeast (x1 : Int32) (x2 : Int32) (x3 : Int32) (x4 : Int32) (σ : hh_S) (Q : hh_S → Prop) : Prop := (∃ n : Nat, hh_lp2 (wq_X3_dealtAtLeast_7 x1 x2 x3 Q) n (0 : Int64) x4 σ)
theorem in_X3_dealtAtLeast_X3 : ∀ w ∈ u_ws RX3 TX3 4, w ∈ wsX3_dealtAtLeast := fun w h => List.mem_cons_of_mem _ (List.mem_append_right _ h)
set_option maxHeartbeats 4000000 in
set_option maxRecDepth 100000 in
theorem ad_X3_dealtAtLeast {D : va_G} (l : Launch) {cy : Nat → ClassId} {ad : Nat → Nat} (J : hh_J hc_Y ad) (x1 : Int32) (x2 : Int32) (x3 : Int32) (x4 : Int32) (σ : hh_S) (Q : hh_S → Prop) (hq : wp_X3_dealtAtLeast x1 x2 x3 x4 σ Q) : Met l yX3_dealtAtLeast wsX3_dealtAtLeast rm_X3_dealtAtLeast (va_Pc [.ref (ad 9), .int x1, .int x2, .int x3, .int x4] (hh_B D hh_cl hc_Y cy ad σ)) (va_Qv Q (hh_B D hh_cl hc_Y cy ad) (hh_A hc_Y ad)) 0 0 (hh_A hc_Y ad) := by
  refine Met.ofW (cc := cX3_dealtAtLeast) (maxL := 8) (ret := none) (by decide) rfl ?_
  intro p e s m args below meth c s₁ B hml hv
  obtain ⟨hargs, hP0, hK0⟩ := hv
  have hr := B.returns
  have hlocks := B.notSynchronized
  have X : hh_X p m c cX3_dealtAtLeast 8 s args wsX3_dealtAtLeast RX3 D hh_cl hc_Y cy ad := ⟨⟨B.exec, B.bytes, hml, findClass_of_methodNamed B.named, atoms_spec (ws := wsX3_dealtAtLeast) B.pre⟩, hK0, J⟩
  have hx := X.1.1
  have hb1 := X.1.2.1
  have h : hh_H D hh_cl hc_Y cy ad s.heap σ s.heap [] := ⟨hP0, va_S.rf⟩
  have lt_7 : ∀ (x1 : Int32) (x2 : Int32) (x3 : Int32) (n : Nat) (x5 : Int64) (x7 : Int32) (σ : hh_S) (H : Heap) (locs : List Loc) (ls : Array Slot), hh_lp2 (wq_X3_dealtAtLeast_7 x1 x2 x3 Q) n x5 x7 σ → hh_H D hh_cl hc_Y cy ad s.heap σ H locs → lv_has ls 8 [(0, .ref (ad 9)), (1, .int x1), (2, .int x2), (3, .int x3), (5, .long x5), (7, .int x7)] → W p l e (headSpec wsX3_dealtAtLeast rm_X3_dealtAtLeast).room s m args below meth c H locs 0 0 (MQ below (va_Qv Q (hh_B D hh_cl hc_Y cy ad) (hh_A hc_Y ad)) args s 0 0 (hh_A hc_Y ad)) (F0 m 7 ls []) := by
    intro x1 x2 x3 n
    induction n with
    | zero => intro x5 x7 σ H locs ls hq h hl; exact hq.elim
    | succ n ih =>
      intro x5 x7 σ H locs ls hq h hl
      have hq : wq_X3_dealtAtLeast_7 x1 x2 x3 Q (hh_lp2 (wq_X3_dealtAtLeast_7 x1 x2 x3 Q) n) x5 x7 σ := hq
      unfold wq_X3_dealtAtLeast_7 at hq
      refine lv_iload hx hb1 dX3_dealtAtLeast_7 (lv_at hl 5 rfl) ?_
      refine lv_iload_n hx hb1 dX3_dealtAtLeast_9 rfl (lv_at hl 3 rfl) ?_
      refine lv_icmp_gt (tgt := 41) hx hb1 dX3_dealtAtLeast_10 (by decide) (fun c1 => ?_) (fun c1 => ?_)
      · have hq := hq.1 c1
        refine lv_aload_n hx hb1 dX3_dealtAtLeast_41 rfl (lv_at hl 0 rfl) ?_
        refine lv_lload hx hb1 dX3_dealtAtLeast_42 (lv_at hl 4 rfl) ?_
        refine lv_iload_n hx hb1 dX3_dealtAtLeast_44 rfl (lv_at hl 1 rfl) ?_
        refine lv_iload_n hx hb1 dX3_dealtAtLeast_45 rfl (lv_at hl 2 rfl) ?_
        refine hh_kL h (va_runS (As := [.int x1, .int x2]) (rest := [.long x5, .ref (ad 9)]) X.1 (ad_X3_choose (D := D) l J x1 x2 σ _ hq) (va_cwS 2 X.1.2.2.2.2 gX3_dealtAtLeast_X3_choose rfl rfl rfl nd_X3_choose ⟨Nat.le_of_ble_eq_true rfl, Nat.le_of_ble_eq_true rfl⟩) (hh_preS X h [.int x1, .int x2]) rfl rfl hl.1 rfl (lv_room (Nat.le_of_ble_eq_true rfl)) dX3_dealtAtLeast_46 ⟨Nat.le_of_ble_eq_true rfl, Nat.le_of_ble_eq_true rfl⟩) (fun r2 σ3 H locs hq h => ?_)
        refine hh_kV h (va_runV (As := [.long x5, .long r2]) (rest := []) X.1 (ad_X3_reduce (D := D) l J x5 r2 σ3 _ hq) (cwV 2 X.1.2.2.2.2 gX3_dealtAtLeast_X3_reduce rfl rfl rfl nd_X3_reduce ⟨Nat.le_of_ble_eq_true rfl, Nat.le_of_ble_eq_true rfl⟩) (hh_preV X h fc_9_0 kc_9 [.long x5, .long r2]) rfl rfl hl.1 rfl (lv_room (Nat.le_of_ble_eq_true rfl)) dX3_dealtAtLeast_49 ⟨Nat.le_of_ble_eq_true rfl, Nat.le_of_ble_eq_true rfl⟩) (fun σ5 H locs hq h => ?_)
        exact hh_vret X h hr hlocks hq dX3_dealtAtLeast_52
      · have hq := hq.2 c1
        refine lv_lload hx hb1 dX3_dealtAtLeast_13 (lv_at hl 4 rfl) ?_
        refine lv_iload_n hx hb1 dX3_dealtAtLeast_15 rfl (lv_at hl 3 rfl) ?_
        refine lv_iload hx hb1 dX3_dealtAtLeast_16 (lv_at hl 5 rfl) ?_
        refine hh_kL h (va_runS (As := [.int x3, .int x7]) (rest := [.long x5]) X.1 (ad_X3_choose (D := D) l J x3 x7 σ _ hq) (va_cwS 2 X.1.2.2.2.2 gX3_dealtAtLeast_X3_choose rfl rfl rfl nd_X3_choose ⟨Nat.le_of_ble_eq_true rfl, Nat.le_of_ble_eq_true rfl⟩) (hh_preS X h [.int x3, .int x7]) rfl rfl hl.1 rfl (lv_room (Nat.le_of_ble_eq_true rfl)) dX3_dealtAtLeast_18 ⟨Nat.le_of_ble_eq_true rfl, Nat.le_of_ble_eq_true rfl⟩) (fun r6 σ7 H locs hq h => ?_)
        refine lv_iload_n hx hb1 dX3_dealtAtLeast_21 rfl (lv_at hl 1 rfl) ?_
        refine lv_iload_n hx hb1 dX3_dealtAtLeast_22 rfl (lv_at hl 3 rfl) ?_
        refine lv_isub hx hb1 dX3_dealtAtLeast_23 ?_
        refine lv_iload_n hx hb1 dX3_dealtAtLeast_24 rfl (lv_at hl 2 rfl) ?_
        refine lv_iload hx hb1 dX3_dealtAtLeast_25 (lv_at hl 5 rfl) ?_
        refine lv_isub hx hb1 dX3_dealtAtLeast_27 ?_
        refine hh_kL h (va_runS (As := [.int (x1 - x3), .int (x2 - x7)]) (rest := [.long r6, .long x5]) X.1 (ad_X3_choose (D := D) l J (x1 - x3) (x2 - x7) σ7 _ hq) (va_cwS 2 X.1.2.2.2.2 gX3_dealtAtLeast_X3_choose rfl rfl rfl nd_X3_choose ⟨Nat.le_of_ble_eq_true rfl, Nat.le_of_ble_eq_true rfl⟩) (hh_preS X h [.int (x1 - x3), .int (x2 - x7)]) rfl rfl hl.1 rfl (lv_room (Nat.le_of_ble_eq_true rfl)) dX3_dealtAtLeast_28 ⟨Nat.le_of_ble_eq_true rfl, Nat.le_of_ble_eq_true rfl⟩) (fun r8 σ9 H locs hq h => ?_)
        refine lv_lmul hx hb1 dX3_dealtAtLeast_31 ?_
        refine lv_ladd hx hb1 dX3_dealtAtLeast_32 ?_
        refine lv_topl (fun v10 ev10 => ?_)
        have hq := hq v10 ev10
        refine lv_lstore (lv' := [(5, .long v10), (0, .ref (ad 9)), (1, .int x1), (2, .int x2), (3, .int x3), (7, .int x7)]) hx hb1 dX3_dealtAtLeast_33 hl (by decide) rfl (fun ls hl => ?_)
        refine lv_iinc (v := (x7 + (1 : Int32))) (lv' := [(7, .int (x7 + (1 : Int32))), (5, .long v10), (0, .ref (ad 9)), (1, .int x1), (2, .int x2), (3, .int x3)]) hx hb1 dX3_dealtAtLeast_35 hl (k := 5) rfl rfl (by decide) rfl (fun ls hl => ?_)
        refine lv_goto (tgt := 7) hx hb1 dX3_dealtAtLeast_38 (by decide) ?_
        exact ih v10 (x7 + (1 : Int32)) σ9 _ _ ls hq h (lv_sub hl [2, 3, 4, 5, 1, 0] rfl)
  subst hargs
  refine hh_entry (vs := [.ref (ad 9), .int x1, .int x2, .int x3, .int x4]) (Nat.le_of_ble_eq_true rfl) (fun ls hl => ?_)
  have hl : lv_has ls 8 [(0, .ref (ad 9)), (1, .int x1), (2, .int x2), (3, .int x3), (4, .int x4)] := hl
  have hq : wp_X3_dealtAtLeast x1 x2 x3 x4 σ Q := hq
  unfold wp_X3_dealtAtLeast at hq
  refine lv_lconst (v := (0 : Int64)) hx hb1 dX3_dealtAtLeast_0 (by decide) ?_
  refine lv_lstore (lv' := [(5, .long (0 : Int64)), (0, .ref (ad 9)), (1, .int x1), (2, .int x2), (3, .int x3), (4, .int x4)]) hx hb1 dX3_dealtAtLeast_1 hl (by decide) rfl (fun ls hl => ?_)
  refine lv_iload hx hb1 dX3_dealtAtLeast_3 (lv_at hl 5 rfl) ?_
  refine lv_istore (lv' := [(7, .int x4), (5, .long (0 : Int64)), (0, .ref (ad 9)), (1, .int x1), (2, .int x2), (3, .int x3), (4, .int x4)]) hx hb1 dX3_dealtAtLeast_5 hl (by decide) rfl (fun ls hl => ?_)
  obtain ⟨n11, hq⟩ := hq
  exact lt_7 x1 x2 x3 n11 (0 : Int64) x4 σ _ _ ls hq h (lv_sub hl [2, 3, 4, 5, 1, 0] rfl)
theorem nd_X3_power : yX3_power.cls ≠ "java/lang/invoke/MethodHandle" ∧ yX3_power.cls ≠ "java/lang/invoke/VarHandle" ∧ (parseMethodDescriptor yX3_power.desc).map (fun d => d.parameters.length) = some 2 := by decide +kernel
abbrev rm_X3_power : Room := { frames := 0, cells := 0, slots := 0, locals := 0 }
def wq_X3_power_5 (x0 : Int32) (x1 : Int32) (Q : Int64 → hh_S → Prop) (K5 : Int64 → Int32 → hh_S → Prop) (x2 : Int64) (x4 : Int32) (σ : hh_S) : Prop := ((x1 ≤ x4 → (Q x2 σ)) ∧ (¬ x1 ≤ x4 → (∀ v2 : Int64, v2 = (x2 * (x0.toInt64)) → (K5 v2 (x4 + (1 : Int32)) σ))))
def wp_X3_power (x0 : Int32) (x1 : Int32) (σ : hh_S) (Q : Int64 → hh_S → Prop) : Prop := (∃ n : Nat, hh_lp2 (wq_X3_power_5 x0 x1 Q) n (1 : Int64) (0 : Int32) σ)
set_option maxHeartbeats 4000000 in
set_option maxRecDepth 100000 in
theorem ad_X3_power {D : va_G} (l : Launch) {cy : Nat → ClassId} {ad : Nat → Nat} (J : hh_J hc_Y ad) (x0 : Int32) (x1 : Int32) (σ : hh_S) (Q : Int64 → hh_S → Prop) (hq : wp_X3_power x0 x1 σ Q) : Met l yX3_power wsX3_power rm_X3_power (va_Pc [.int x0, .int x1] (hh_B D hh_cl hc_Y cy ad σ)) (va_Ql Q (hh_B D hh_cl hc_Y cy ad) (hh_A hc_Y ad)) 0 0 (hh_A hc_Y ad) := by
  refine Met.ofW (cc := cX3_power) (maxL := 5) (ret := (some .long)) (by decide) rfl ?_
  intro p e s m args below meth c s₁ B hml hv
  obtain ⟨hargs, hP0, hK0⟩ := hv
  have hr := B.returns
  have hlocks := B.notSynchronized
  have X : hh_X p m c cX3_power 5 s args wsX3_power RX3 D hh_cl hc_Y cy ad := ⟨⟨B.exec, B.bytes, hml, findClass_of_methodNamed B.named, atoms_spec (ws := wsX3_power) B.pre⟩, hK0, J⟩
  have hx := X.1.1
  have hb1 := X.1.2.1
  have h : hh_H D hh_cl hc_Y cy ad s.heap σ s.heap [] := ⟨hP0, va_S.rf⟩
  have lt_5 : ∀ (x0 : Int32) (x1 : Int32) (n : Nat) (x2 : Int64) (x4 : Int32) (σ : hh_S) (H : Heap) (locs : List Loc) (ls : Array Slot), hh_lp2 (wq_X3_power_5 x0 x1 Q) n x2 x4 σ → hh_H D hh_cl hc_Y cy ad s.heap σ H locs → lv_has ls 5 [(0, .int x0), (1, .int x1), (2, .long x2), (4, .int x4)] → W p l e (headSpec wsX3_power rm_X3_power).room s m args below meth c H locs 0 0 (MQ below (va_Ql Q (hh_B D hh_cl hc_Y cy ad) (hh_A hc_Y ad)) args s 0 0 (hh_A hc_Y ad)) (F0 m 5 ls []) := by
    intro x0 x1 n
    induction n with
    | zero => intro x2 x4 σ H locs ls hq h hl; exact hq.elim
    | succ n ih =>
      intro x2 x4 σ H locs ls hq h hl
      have hq : wq_X3_power_5 x0 x1 Q (hh_lp2 (wq_X3_power_5 x0 x1 Q) n) x2 x4 σ := hq
      unfold wq_X3_power_5 at hq
      refine lv_iload hx hb1 dX3_power_5 (lv_at hl 3 rfl) ?_
      refine lv_iload_n hx hb1 dX3_power_7 rfl (lv_at hl 1 rfl) ?_
      refine lv_icmp_ge (tgt := 22) hx hb1 dX3_power_8 (by decide) (fun c1 => ?_) (fun c1 => ?_)
      · have hq := hq.1 c1
        refine lv_lload_n hx hb1 dX3_power_22 rfl (lv_at hl 2 rfl) ?_
        exact hh_lret X h hr hlocks hq dX3_power_23
      · have hq := hq.2 c1
        refine lv_lload_n hx hb1 dX3_power_11 rfl (lv_at hl 2 rfl) ?_
        refine lv_iload_n hx hb1 dX3_power_12 rfl (lv_at hl 0 rfl) ?_
        refine lv_i2l (v := (x0).toInt64) hx hb1 dX3_power_13 rfl ?_
        refine lv_lmul hx hb1 dX3_power_14 ?_
        refine lv_topl (fun v2 ev2 => ?_)
        have hq := hq v2 ev2
        refine lv_lstore_n (lv' := [(2, .long v2), (0, .int x0), (1, .int x1), (4, .int x4)]) hx hb1 dX3_power_15 rfl hl (by decide) rfl (fun ls hl => ?_)
        refine lv_iinc (v := (x4 + (1 : Int32))) (lv' := [(4, .int (x4 + (1 : Int32))), (2, .long v2), (0, .int x0), (1, .int x1)]) hx hb1 dX3_power_16 hl (k := 3) rfl rfl (by decide) rfl (fun ls hl => ?_)
        refine lv_goto (tgt := 5) hx hb1 dX3_power_19 (by decide) ?_
        exact ih v2 (x4 + (1 : Int32)) σ _ _ ls hq h (lv_sub hl [2, 3, 1, 0] rfl)
  subst hargs
  refine hh_entry (vs := [.int x0, .int x1]) (Nat.le_of_ble_eq_true rfl) (fun ls hl => ?_)
  have hl : lv_has ls 5 [(0, .int x0), (1, .int x1)] := hl
  have hq : wp_X3_power x0 x1 σ Q := hq
  unfold wp_X3_power at hq
  refine lv_lconst (v := (1 : Int64)) hx hb1 dX3_power_0 (by decide) ?_
  refine lv_lstore_n (lv' := [(2, .long (1 : Int64)), (0, .int x0), (1, .int x1)]) hx hb1 dX3_power_1 rfl hl (by decide) rfl (fun ls hl => ?_)
  refine lv_iconst (v := (0 : Int32)) hx hb1 dX3_power_2 (by decide) ?_
  refine lv_istore (lv' := [(4, .int (0 : Int32)), (2, .long (1 : Int64)), (0, .int x0), (1, .int x1)]) hx hb1 dX3_power_3 hl (by decide) rfl (fun ls hl => ?_)
  obtain ⟨n3, hq⟩ := hq
  exact lt_5 x0 x1 n3 (1 : Int64) (0 : Int32) σ _ _ ls hq h (lv_sub hl [2, 3, 1, 0] rfl)
theorem nd_X3_greaterPart : yX3_greaterPart.cls ≠ "java/lang/invoke/MethodHandle" ∧ yX3_greaterPart.cls ≠ "java/lang/invoke/VarHandle" ∧ (parseMethodDescriptor yX3_greaterPart.desc).map (fun d => d.parameters.length) = some 2 := by decide +kernel
abbrev rm_X3_greaterPart : Room := { frames := 1, cells := 0, slots := 0, locals := 24 }
def wq_X3_greaterPart_9 (x0 : Int32) (x1 : Int32) (Q : Int64 → hh_S → Prop) (K9 : Int64 → Int32 → hh_S → Prop) (x2 : Int64) (x4 : Int32) (σ : hh_S) : Prop := ((x1 < x4 → (Q x2 σ)) ∧ (¬ x1 < x4 → (wp_X3_choose x1 x4 σ (fun (r2 : Int64) (σ3 : hh_S) => (wp_X3_power x0 x4 σ3 (fun (r4 : Int64) (σ5 : hh_S) => (wp_X3_power ((100 : Int32) - x0) (x1 - x4) σ5 (fun (r6 : Int64) (σ7 : hh_S) => (∀ v8 : Int64, v8 = (x2 + ((r2 * r4) * r6)) → (K9 v8 (x4 + (1 : Int32)) σ7))))))))))
def wp_X3_greaterPart (x0 : Int32) (x1 : Int32) (σ : hh_S) (Q : Int64 → hh_S → Prop) : Prop := (∀ v9 : Int32, v9 = ((x1 / (2 : Int32)) + (1 : Int32)) → (∃ n : Nat, hh_lp2 (wq_X3_greaterPart_9 x0 x1 Q) n (0 : Int64) v9 σ))
set_option maxHeartbeats 4000000 in
set_option maxRecDepth 100000 in
theorem ad_X3_greaterPart {D : va_G} (l : Launch) {cy : Nat → ClassId} {ad : Nat → Nat} (J : hh_J hc_Y ad) (x0 : Int32) (x1 : Int32) (σ : hh_S) (Q : Int64 → hh_S → Prop) (hq : wp_X3_greaterPart x0 x1 σ Q) : Met l yX3_greaterPart wsX3_greaterPart rm_X3_greaterPart (va_Pc [.int x0, .int x1] (hh_B D hh_cl hc_Y cy ad σ)) (va_Ql Q (hh_B D hh_cl hc_Y cy ad) (hh_A hc_Y ad)) 0 0 (hh_A hc_Y ad) := by
  refine Met.ofW (cc := cX3_greaterPart) (maxL := 5) (ret := (some .long)) (by decide) rfl ?_
  intro p e s m args below meth c s₁ B hml hv
  obtain ⟨hargs, hP0, hK0⟩ := hv
  have hr := B.returns
  have hlocks := B.notSynchronized
  have X : hh_X p m c cX3_greaterPart 5 s args wsX3_greaterPart RX3 D hh_cl hc_Y cy ad := ⟨⟨B.exec, B.bytes, hml, findClass_of_methodNamed B.named, atoms_spec (ws := wsX3_greaterPart) B.pre⟩, hK0, J⟩
  have hx := X.1.1
  have hb1 := X.1.2.1
  have h : hh_H D hh_cl hc_Y cy ad s.heap σ s.heap [] := ⟨hP0, va_S.rf⟩
  have lt_9 : ∀ (x0 : Int32) (x1 : Int32) (n : Nat) (x2 : Int64) (x4 : Int32) (σ : hh_S) (H : Heap) (locs : List Loc) (ls : Array Slot), hh_lp2 (wq_X3_greaterPart_9 x0 x1 Q) n x2 x4 σ → hh_H D hh_cl hc_Y cy ad s.heap σ H locs → lv_has ls 5 [(0, .int x0), (1, .int x1), (2, .long x2), (4, .int x4)] → W p l e (headSpec wsX3_greaterPart rm_X3_greaterPart).room s m args below meth c H locs 0 0 (MQ below (va_Ql Q (hh_B D hh_cl hc_Y cy ad) (hh_A hc_Y ad)) args s 0 0 (hh_A hc_Y ad)) (F0 m 9 ls []) := by
    intro x0 x1 n
    induction n with
    | zero => intro x2 x4 σ H locs ls hq h hl; exact hq.elim
    | succ n ih =>
      intro x2 x4 σ H locs ls hq h hl
      have hq : wq_X3_greaterPart_9 x0 x1 Q (hh_lp2 (wq_X3_greaterPart_9 x0 x1 Q) n) x2 x4 σ := hq
      unfold wq_X3_greaterPart_9 at hq
      refine lv_iload hx hb1 dX3_greaterPart_9 (lv_at hl 3 rfl) ?_
      refine lv_iload_n hx hb1 dX3_greaterPart_11 rfl (lv_at hl 1 rfl) ?_
      refine lv_icmp_gt (tgt := 49) hx hb1 dX3_greaterPart_12 (by decide) (fun c1 => ?_) (fun c1 => ?_)
      · have hq := hq.1 c1
        refine lv_lload_n hx hb1 dX3_greaterPart_49 rfl (lv_at hl 2 rfl) ?_
        exact hh_lret X h hr hlocks hq dX3_greaterPart_50
      · have hq := hq.2 c1
        refine lv_lload_n hx hb1 dX3_greaterPart_15 rfl (lv_at hl 2 rfl) ?_
        refine lv_iload_n hx hb1 dX3_greaterPart_16 rfl (lv_at hl 1 rfl) ?_
        refine lv_iload hx hb1 dX3_greaterPart_17 (lv_at hl 3 rfl) ?_
        refine hh_kL h (va_runS (As := [.int x1, .int x4]) (rest := [.long x2]) X.1 (ad_X3_choose (D := D) l J x1 x4 σ _ hq) (va_cwS 2 X.1.2.2.2.2 gX3_greaterPart_X3_choose rfl rfl rfl nd_X3_choose ⟨Nat.le_of_ble_eq_true rfl, Nat.le_of_ble_eq_true rfl⟩) (hh_preS X h [.int x1, .int x4]) rfl rfl hl.1 rfl (lv_room (Nat.le_of_ble_eq_true rfl)) dX3_greaterPart_19 ⟨Nat.le_of_ble_eq_true rfl, Nat.le_of_ble_eq_true rfl⟩) (fun r2 σ3 H locs hq h => ?_)
        refine lv_iload_n hx hb1 dX3_greaterPart_22 rfl (lv_at hl 0 rfl) ?_
        refine lv_iload hx hb1 dX3_greaterPart_23 (lv_at hl 3 rfl) ?_
        refine hh_kL h (va_runS (As := [.int x0, .int x4]) (rest := [.long r2, .long x2]) X.1 (ad_X3_power (D := D) l J x0 x4 σ3 _ hq) (va_cwS 2 X.1.2.2.2.2 gX3_greaterPart_X3_power rfl rfl rfl nd_X3_power ⟨Nat.le_of_ble_eq_true rfl, Nat.le_of_ble_eq_true rfl⟩) (hh_preS X h [.int x0, .int x4]) rfl rfl hl.1 rfl (lv_room (Nat.le_of_ble_eq_true rfl)) dX3_greaterPart_25 ⟨Nat.le_of_ble_eq_true rfl, Nat.le_of_ble_eq_true rfl⟩) (fun r4 σ5 H locs hq h => ?_)
        refine lv_lmul hx hb1 dX3_greaterPart_28 ?_
        refine lv_bipush (v := (100 : Int32)) hx hb1 dX3_greaterPart_29 (by decide) ?_
        refine lv_iload_n hx hb1 dX3_greaterPart_31 rfl (lv_at hl 0 rfl) ?_
        refine lv_isub hx hb1 dX3_greaterPart_32 ?_
        refine lv_iload_n hx hb1 dX3_greaterPart_33 rfl (lv_at hl 1 rfl) ?_
        refine lv_iload hx hb1 dX3_greaterPart_34 (lv_at hl 3 rfl) ?_
        refine lv_isub hx hb1 dX3_greaterPart_36 ?_
        refine hh_kL h (va_runS (As := [.int ((100 : Int32) - x0), .int (x1 - x4)]) (rest := [.long (r2 * r4), .long x2]) X.1 (ad_X3_power (D := D) l J ((100 : Int32) - x0) (x1 - x4) σ5 _ hq) (va_cwS 2 X.1.2.2.2.2 gX3_greaterPart_X3_power rfl rfl rfl nd_X3_power ⟨Nat.le_of_ble_eq_true rfl, Nat.le_of_ble_eq_true rfl⟩) (hh_preS X h [.int ((100 : Int32) - x0), .int (x1 - x4)]) rfl rfl hl.1 rfl (lv_room (Nat.le_of_ble_eq_true rfl)) dX3_greaterPart_37 ⟨Nat.le_of_ble_eq_true rfl, Nat.le_of_ble_eq_true rfl⟩) (fun r6 σ7 H locs hq h => ?_)
        refine lv_lmul hx hb1 dX3_greaterPart_40 ?_
        refine lv_ladd hx hb1 dX3_greaterPart_41 ?_
        refine lv_topl (fun v8 ev8 => ?_)
        have hq := hq v8 ev8
        refine lv_lstore_n (lv' := [(2, .long v8), (0, .int x0), (1, .int x1), (4, .int x4)]) hx hb1 dX3_greaterPart_42 rfl hl (by decide) rfl (fun ls hl => ?_)
        refine lv_iinc (v := (x4 + (1 : Int32))) (lv' := [(4, .int (x4 + (1 : Int32))), (2, .long v8), (0, .int x0), (1, .int x1)]) hx hb1 dX3_greaterPart_43 hl (k := 3) rfl rfl (by decide) rfl (fun ls hl => ?_)
        refine lv_goto (tgt := 9) hx hb1 dX3_greaterPart_46 (by decide) ?_
        exact ih v8 (x4 + (1 : Int32)) σ7 _ _ ls hq h (lv_sub hl [2, 3, 1, 0] rfl)
  subst hargs
  refine hh_entry (vs := [.int x0, .int x1]) (Nat.le_of_ble_eq_true rfl) (fun ls hl => ?_)
  have hl : lv_has ls 5 [(0, .int x0), (1, .int x1)] := hl
  have hq : wp_X3_greaterPart x0 x1 σ Q := hq
  unfold wp_X3_greaterPart at hq
  refine lv_lconst (v := (0 : Int64)) hx hb1 dX3_greaterPart_0 (by decide) ?_
  refine lv_lstore_n (lv' := [(2, .long (0 : Int64)), (0, .int x0), (1, .int x1)]) hx hb1 dX3_greaterPart_1 rfl hl (by decide) rfl (fun ls hl => ?_)
  refine lv_iload_n hx hb1 dX3_greaterPart_2 rfl (lv_at hl 2 rfl) ?_
  refine lv_iconst (v := (2 : Int32)) hx hb1 dX3_greaterPart_3 (by decide) ?_
  refine lv_idiv hx hb1 dX3_greaterPart_4 (by decide) ?_
  refine lv_iconst (v := (1 : Int32)) hx hb1 dX3_greaterPart_5 (by decide) ?_
  refine lv_iadd hx hb1 dX3_greaterPart_6 ?_
  refine lv_topi (fun v9 ev9 => ?_)
  have hq := hq v9 ev9
  refine lv_istore (lv' := [(4, .int v9), (2, .long (0 : Int64)), (0, .int x0), (1, .int x1)]) hx hb1 dX3_greaterPart_7 hl (by decide) rfl (fun ls hl => ?_)
  obtain ⟨n10, hq⟩ := hq
  exact lt_9 x0 x1 n10 (0 : Int64) v9 σ _ _ ls hq h (lv_sub hl [2, 3, 1, 0] rfl)
