theorem nd_X2_spot : yX2_spot.cls ≠ "java/lang/invoke/MethodHandle" ∧ yX2_spot.cls ≠ "java/lang/invoke/VarHandle" ∧ (parseMethodDescriptor yX2_spot.desc).map (fun d => d.parameters.length) = some 3 := by decide +kernel
abbrev rm_X2_spot : Room := { frames := 0, cells := 0, slots := 0, locals := 0 }
def wp_X2_spot (x0 : Int32) (x1 : Int32) (x2 : Int32) (σ : hh_S) (Q : Int32 → hh_S → Prop) : Prop := (Q ((((x0 - (2 : Int32)) * (16 : Int32)) + (x1 * (4 : Int32))) + x2) σ)
set_option maxHeartbeats 4000000 in
set_option maxRecDepth 100000 in
theorem ad_X2_spot {D : va_G} (l : Launch) {cy : Nat → ClassId} {ad : Nat → Nat} (J : hh_J hc_Y ad) (x0 : Int32) (x1 : Int32) (x2 : Int32) (σ : hh_S) (Q : Int32 → hh_S → Prop) (hq : wp_X2_spot x0 x1 x2 σ Q) : Met l yX2_spot wsX2_spot rm_X2_spot (va_Pc [.int x0, .int x1, .int x2] (hh_B D hh_cl hc_Y cy ad σ)) (va_Qi Q (hh_B D hh_cl hc_Y cy ad) (hh_A hc_Y ad)) 0 0 (hh_A hc_Y ad) := by
  refine Met.ofW (cc := cX2_spot) (maxL := 3) (ret := (some .int)) (by decide) rfl ?_
  intro p e s m args below meth c s₁ B hml hv
  obtain ⟨hargs, hP0, hK0⟩ := hv
  have hr := B.returns
  have hlocks := B.notSynchronized
  have X : hh_X p m c cX2_spot 3 s args wsX2_spot RX2 D hh_cl hc_Y cy ad := ⟨⟨B.exec, B.bytes, hml, findClass_of_methodNamed B.named, atoms_spec (ws := wsX2_spot) B.pre⟩, hK0, J⟩
  have hx := X.1.1
  have hb1 := X.1.2.1
  have h : hh_H D hh_cl hc_Y cy ad s.heap σ s.heap [] := ⟨hP0, va_S.rf⟩
  subst hargs
  refine hh_entry (vs := [.int x0, .int x1, .int x2]) (Nat.le_of_ble_eq_true rfl) (fun ls hl => ?_)
  have hl : lv_has ls 3 [(0, .int x0), (1, .int x1), (2, .int x2)] := hl
  have hq : wp_X2_spot x0 x1 x2 σ Q := hq
  unfold wp_X2_spot at hq
  refine lv_iload_n hx hb1 dX2_spot_0 rfl (lv_at hl 0 rfl) ?_
  refine lv_iconst (v := (2 : Int32)) hx hb1 dX2_spot_1 (by decide) ?_
  refine lv_isub hx hb1 dX2_spot_2 ?_
  refine lv_bipush (v := (16 : Int32)) hx hb1 dX2_spot_3 (by decide) ?_
  refine lv_imul hx hb1 dX2_spot_5 ?_
  refine lv_iload_n hx hb1 dX2_spot_6 rfl (lv_at hl 1 rfl) ?_
  refine lv_iconst (v := (4 : Int32)) hx hb1 dX2_spot_7 (by decide) ?_
  refine lv_imul hx hb1 dX2_spot_8 ?_
  refine lv_iadd hx hb1 dX2_spot_9 ?_
  refine lv_iload_n hx hb1 dX2_spot_10 rfl (lv_at hl 2 rfl) ?_
  refine lv_iadd hx hb1 dX2_spot_11 ?_
  exact hh_iret X h hr hlocks hq dX2_spot_12
theorem nd_X2_fillLine : yX2_fillLine.cls = RX2 ∧ yX2_fillLine.cls ≠ "java/lang/invoke/MethodHandle" ∧ yX2_fillLine.cls ≠ "java/lang/invoke/VarHandle" ∧ (parseMethodDescriptor yX2_fillLine.desc).map (fun d => d.parameters.length) = some 3 := by decide +kernel
abbrev rm_X2_fillLine : Room := { frames := 1, cells := 0, slots := 0, locals := 22 }
def wq_X2_fillLine_46 (b : Nat) (x1 : Int32) (x2 : Int32) (x3 : Int32) (x4 : Int64) (Q : hh_S → Prop) (K46 : Int32 → hh_S → Prop) (x6 : Int32) (σ : hh_S) : Prop := ((x2 ≤ x6 → (Q σ)) ∧ (¬ x2 ≤ x6 → (vp_in x1 10 ∧ (wp_X2_spot x2 x3 x6 σ (fun (r3 : Int32) (σ4 : hh_S) => (wp_X2_spot x2 x3 x6 σ4 (fun (r5 : Int32) (σ6 : hh_S) => (vp_in r5 48 ∧ ((¬ x4 = 0) ∧ (vp_in r3 48 ∧ ∀ σ10 : hh_S, σ10 = hh_sA σ6 ((79 + 34 * b) + (x1).toNatClampNeg) r3 ((((1000 : Int64) * (hh_rB σ6 (32 + 6 * b) r5)) / x4).toInt32) → (K46 (x6 + (1 : Int32)) σ10)))))))))))
def wq_X2_fillLine_6 (b : Nat) (x1 : Int32) (x2 : Int32) (x3 : Int32) (Q : hh_S → Prop) (K6 : Int64 → Int32 → hh_S → Prop) (x4 : Int64) (x6 : Int32) (σ : hh_S) : Prop := ((x2 ≤ x6 → ((0 < (lg_cmp x4 (0 : Int64)) → (∃ n : Nat, hh_lp1 (wq_X2_fillLine_46 b x1 x2 x3 x4 Q) n (0 : Int32) σ)) ∧ (¬ 0 < (lg_cmp x4 (0 : Int64)) → (Q σ)))) ∧ (¬ x2 ≤ x6 → (wp_X2_spot x2 x3 x6 σ (fun (r14 : Int32) (σ15 : hh_S) => (vp_in r14 48 ∧ (∀ v17 : Int64, v17 = (x4 + (hh_rB σ15 (32 + 6 * b) r14)) → (K6 v17 (x6 + (1 : Int32)) σ15)))))))
def wp_X2_fillLine (b : Nat) (x1 : Int32) (x2 : Int32) (x3 : Int32) (σ : hh_S) (Q : hh_S → Prop) : Prop := (∃ n : Nat, hh_lp2 (wq_X2_fillLine_6 b x1 x2 x3 Q) n (0 : Int64) (0 : Int32) σ)
theorem in_X2_fillLine_X2 : ∀ w ∈ u_ws RX2 TX2 9, w ∈ wsX2_fillLine := fun w h => List.mem_cons_of_mem _ (List.mem_append_right _ h)
set_option maxHeartbeats 4000000 in
set_option maxRecDepth 100000 in
theorem ad_X2_fillLine {D : va_G} (l : Launch) {cy : Nat → ClassId} {ad : Nat → Nat} (J : hh_J hc_Y ad) {b : Nat} (hb : b = 0 ∨ b = 1) (x1 : Int32) (x2 : Int32) (x3 : Int32) (σ : hh_S) (Q : hh_S → Prop) (hq : wp_X2_fillLine b x1 x2 x3 σ Q) : Met l yX2_fillLine wsX2_fillLine rm_X2_fillLine (va_Pc [.ref (ad (7 + b)), .int x1, .int x2, .int x3] (hh_B D hh_cl hc_Y cy ad σ)) (va_Qv Q (hh_B D hh_cl hc_Y cy ad) (hh_A hc_Y ad)) 0 0 (hh_A hc_Y ad) := by
  refine Met.ofW (cc := cX2_fillLine) (maxL := 7) (ret := none) (by decide) rfl ?_
  intro p e s m args below meth c s₁ B hml hv
  obtain ⟨hargs, hP0, hK0⟩ := hv
  have hr := B.returns
  have hlocks := B.notSynchronized
  have X : hh_X p m c cX2_fillLine 7 s args wsX2_fillLine RX2 D hh_cl hc_Y cy ad := ⟨⟨B.exec, B.bytes, hml, findClass_of_methodNamed B.named, atoms_spec (ws := wsX2_fillLine) B.pre⟩, hK0, J⟩
  have hx := X.1.1
  have hb1 := X.1.2.1
  have h : hh_H D hh_cl hc_Y cy ad s.heap σ s.heap [] := ⟨hP0, va_S.rf⟩
  have lt_46 : ∀ (x1 : Int32) (x2 : Int32) (x3 : Int32) (x4 : Int64) (n : Nat) (x6 : Int32) (σ : hh_S) (H : Heap) (locs : List Loc) (ls : Array Slot), hh_lp1 (wq_X2_fillLine_46 b x1 x2 x3 x4 Q) n x6 σ → hh_H D hh_cl hc_Y cy ad s.heap σ H locs → lv_has ls 7 [(0, .ref (ad (7 + b))), (1, .int x1), (2, .int x2), (3, .int x3), (4, .long x4), (6, .int x6)] → W p l e (headSpec wsX2_fillLine rm_X2_fillLine).room s m args below meth c H locs 0 0 (MQ below (va_Qv Q (hh_B D hh_cl hc_Y cy ad) (hh_A hc_Y ad)) args s 0 0 (hh_A hc_Y ad)) (F0 m 46 ls []) := by
    intro x1 x2 x3 x4 n
    induction n with
    | zero => intro x6 σ H locs ls hq h hl; exact hq.elim
    | succ n ih =>
      intro x6 σ H locs ls hq h hl
      have hq : wq_X2_fillLine_46 b x1 x2 x3 x4 Q (hh_lp1 (wq_X2_fillLine_46 b x1 x2 x3 x4 Q) n) x6 σ := hq
      unfold wq_X2_fillLine_46 at hq
      refine lv_iload hx hb1 dX2_fillLine_46 (lv_at hl 5 rfl) ?_
      refine lv_iload_n hx hb1 dX2_fillLine_48 rfl (lv_at hl 2 rfl) ?_
      refine lv_icmp_ge (tgt := 92) hx hb1 dX2_fillLine_49 (by decide) (fun c1 => ?_) (fun c1 => ?_)
      · have hq := hq.1 c1
        exact hh_vret X h hr hlocks hq dX2_fillLine_92
      · have hq := hq.2 c1
        refine lv_aload_n hx hb1 dX2_fillLine_52 rfl (lv_at hl 0 rfl) ?_
        refine hh_getr X h (fj_1 hb) in_X2_fillLine_X2 (kj hb) (by decide) (List.mem_of_getElem? (i := 2) rfl) rfl dX2_fillLine_53 ?_
        refine lv_iload_n hx hb1 dX2_fillLine_56 rfl (lv_at hl 1 rfl) ?_
        obtain ⟨h2, hq⟩ := hq
        refine hh_ald X h (aj_31 hb) h2 dX2_fillLine_57 ?_
        refine lv_iload_n hx hb1 dX2_fillLine_58 rfl (lv_at hl 2 rfl) ?_
        refine lv_iload_n hx hb1 dX2_fillLine_59 rfl (lv_at hl 3 rfl) ?_
        refine lv_iload hx hb1 dX2_fillLine_60 (lv_at hl 5 rfl) ?_
        refine hh_kI h (va_runS (As := [.int x2, .int x3, .int x6]) (rest := [.ref (ad ((79 + 34 * b) + (x1).toNatClampNeg))]) X.1 (ad_X2_spot (D := D) l J x2 x3 x6 σ _ hq) (va_cwS 3 X.1.2.2.2.2 gX2_fillLine_X2_spot rfl rfl rfl nd_X2_spot ⟨Nat.le_of_ble_eq_true rfl, Nat.le_of_ble_eq_true rfl⟩) (hh_preS X h [.int x2, .int x3, .int x6]) rfl rfl hl.1 rfl (lv_room (Nat.le_of_ble_eq_true rfl)) dX2_fillLine_62 ⟨Nat.le_of_ble_eq_true rfl, Nat.le_of_ble_eq_true rfl⟩) (fun r3 σ4 H locs hq h => ?_)
        refine lv_ldc2 (v := (1000 : Int64)) hx hb1 X.1.2.2.2.1 (X.1.2.2.2.2 _ (List.mem_of_getElem? (i := 3) rfl)) dX2_fillLine_65 ?_
        refine lv_aload_n hx hb1 dX2_fillLine_68 rfl (lv_at hl 0 rfl) ?_
        refine hh_getr X h (fj_5 hb) in_X2_fillLine_X2 (kj hb) (by decide) (List.mem_of_getElem? (i := 1) rfl) rfl dX2_fillLine_69 ?_
        refine lv_iload_n hx hb1 dX2_fillLine_72 rfl (lv_at hl 2 rfl) ?_
        refine lv_iload_n hx hb1 dX2_fillLine_73 rfl (lv_at hl 3 rfl) ?_
        refine lv_iload hx hb1 dX2_fillLine_74 (lv_at hl 5 rfl) ?_
        refine hh_kI h (va_runS (As := [.int x2, .int x3, .int x6]) (rest := [.ref (ad (32 + 6 * b)), .long (1000 : Int64), .int r3, .ref (ad ((79 + 34 * b) + (x1).toNatClampNeg))]) X.1 (ad_X2_spot (D := D) l J x2 x3 x6 σ4 _ hq) (va_cwS 3 X.1.2.2.2.2 gX2_fillLine_X2_spot rfl rfl rfl nd_X2_spot ⟨Nat.le_of_ble_eq_true rfl, Nat.le_of_ble_eq_true rfl⟩) (hh_preS X h [.int x2, .int x3, .int x6]) rfl rfl hl.1 rfl (lv_room (Nat.le_of_ble_eq_true rfl)) dX2_fillLine_76 ⟨Nat.le_of_ble_eq_true rfl, Nat.le_of_ble_eq_true rfl⟩) (fun r5 σ6 H locs hq h => ?_)
        obtain ⟨h7, hq⟩ := hq
        refine hh_lld X h (aj_32 hb) h7 dX2_fillLine_79 ?_
        refine lv_lmul hx hb1 dX2_fillLine_80 ?_
        refine lv_lload hx hb1 dX2_fillLine_81 (lv_at hl 4 rfl) ?_
        obtain ⟨h8, hq⟩ := hq
        refine lv_ldiv hx hb1 dX2_fillLine_83 h8 ?_
        refine lv_l2i (v := ((((1000 : Int64) * (hh_rB σ6 (32 + 6 * b) r5)) / x4)).toInt32) hx hb1 dX2_fillLine_84 rfl ?_
        obtain ⟨h9, hq⟩ := hq
        refine hh_ist X h (ar_nu hb h2) h9 dX2_fillLine_85 (fun σ10 H locs eσ10 h => ?_)
        have hq := hq σ10 eσ10
        refine lv_iinc (v := (x6 + (1 : Int32))) (lv' := [(6, .int (x6 + (1 : Int32))), (0, .ref (ad (7 + b))), (1, .int x1), (2, .int x2), (3, .int x3), (4, .long x4)]) hx hb1 dX2_fillLine_86 hl (k := 5) rfl rfl (by decide) rfl (fun ls hl => ?_)
        refine lv_goto (tgt := 46) hx hb1 dX2_fillLine_89 (by decide) ?_
        exact ih (x6 + (1 : Int32)) σ10 _ _ ls hq h (lv_sub hl [1, 2, 3, 4, 5, 0] rfl)
  have lt_6 : ∀ (x1 : Int32) (x2 : Int32) (x3 : Int32) (n : Nat) (x4 : Int64) (x6 : Int32) (σ : hh_S) (H : Heap) (locs : List Loc) (ls : Array Slot), hh_lp2 (wq_X2_fillLine_6 b x1 x2 x3 Q) n x4 x6 σ → hh_H D hh_cl hc_Y cy ad s.heap σ H locs → lv_has ls 7 [(0, .ref (ad (7 + b))), (1, .int x1), (2, .int x2), (3, .int x3), (4, .long x4), (6, .int x6)] → W p l e (headSpec wsX2_fillLine rm_X2_fillLine).room s m args below meth c H locs 0 0 (MQ below (va_Qv Q (hh_B D hh_cl hc_Y cy ad) (hh_A hc_Y ad)) args s 0 0 (hh_A hc_Y ad)) (F0 m 6 ls []) := by
    intro x1 x2 x3 n
    induction n with
    | zero => intro x4 x6 σ H locs ls hq h hl; exact hq.elim
    | succ n ih =>
      intro x4 x6 σ H locs ls hq h hl
      have hq : wq_X2_fillLine_6 b x1 x2 x3 Q (hh_lp2 (wq_X2_fillLine_6 b x1 x2 x3 Q) n) x4 x6 σ := hq
      unfold wq_X2_fillLine_6 at hq
      refine lv_iload hx hb1 dX2_fillLine_6 (lv_at hl 5 rfl) ?_
      refine lv_iload_n hx hb1 dX2_fillLine_8 rfl (lv_at hl 2 rfl) ?_
      refine lv_icmp_ge (tgt := 35) hx hb1 dX2_fillLine_9 (by decide) (fun c11 => ?_) (fun c11 => ?_)
      · have hq := hq.1 c11
        refine lv_lload hx hb1 dX2_fillLine_35 (lv_at hl 4 rfl) ?_
        refine lv_lconst (v := (0 : Int64)) hx hb1 dX2_fillLine_37 (by decide) ?_
        refine W.lcmp hx hb1 dX2_fillLine_38 ?_
        refine lv_if_gt (tgt := 43) hx hb1 dX2_fillLine_39 (by decide) (fun c12 => ?_) (fun c12 => ?_)
        · have hq := hq.1 c12
          refine lv_iconst (v := (0 : Int32)) hx hb1 dX2_fillLine_43 (by decide) ?_
          refine lv_istore (lv' := [(6, .int (0 : Int32)), (0, .ref (ad (7 + b))), (1, .int x1), (2, .int x2), (3, .int x3), (4, .long x4)]) hx hb1 dX2_fillLine_44 hl (by decide) rfl (fun ls hl => ?_)
          obtain ⟨n13, hq⟩ := hq
          exact lt_46 x1 x2 x3 x4 n13 (0 : Int32) σ _ _ ls hq h (lv_sub hl [1, 2, 3, 4, 5, 0] rfl)
        · have hq := hq.2 c12
          exact hh_vret X h hr hlocks hq dX2_fillLine_42
      · have hq := hq.2 c11
        refine lv_lload hx hb1 dX2_fillLine_12 (lv_at hl 4 rfl) ?_
        refine lv_aload_n hx hb1 dX2_fillLine_14 rfl (lv_at hl 0 rfl) ?_
        refine hh_getr X h (fj_5 hb) in_X2_fillLine_X2 (kj hb) (by decide) (List.mem_of_getElem? (i := 1) rfl) rfl dX2_fillLine_15 ?_
        refine lv_iload_n hx hb1 dX2_fillLine_18 rfl (lv_at hl 2 rfl) ?_
        refine lv_iload_n hx hb1 dX2_fillLine_19 rfl (lv_at hl 3 rfl) ?_
        refine lv_iload hx hb1 dX2_fillLine_20 (lv_at hl 5 rfl) ?_
        refine hh_kI h (va_runS (As := [.int x2, .int x3, .int x6]) (rest := [.ref (ad (32 + 6 * b)), .long x4]) X.1 (ad_X2_spot (D := D) l J x2 x3 x6 σ _ hq) (va_cwS 3 X.1.2.2.2.2 gX2_fillLine_X2_spot rfl rfl rfl nd_X2_spot ⟨Nat.le_of_ble_eq_true rfl, Nat.le_of_ble_eq_true rfl⟩) (hh_preS X h [.int x2, .int x3, .int x6]) rfl rfl hl.1 rfl (lv_room (Nat.le_of_ble_eq_true rfl)) dX2_fillLine_22 ⟨Nat.le_of_ble_eq_true rfl, Nat.le_of_ble_eq_true rfl⟩) (fun r14 σ15 H locs hq h => ?_)
        obtain ⟨h16, hq⟩ := hq
        refine hh_lld X h (aj_32 hb) h16 dX2_fillLine_25 ?_
        refine lv_ladd hx hb1 dX2_fillLine_26 ?_
        refine lv_topl (fun v17 ev17 => ?_)
        have hq := hq v17 ev17
        refine lv_lstore (lv' := [(4, .long v17), (0, .ref (ad (7 + b))), (1, .int x1), (2, .int x2), (3, .int x3), (6, .int x6)]) hx hb1 dX2_fillLine_27 hl (by decide) rfl (fun ls hl => ?_)
        refine lv_iinc (v := (x6 + (1 : Int32))) (lv' := [(6, .int (x6 + (1 : Int32))), (4, .long v17), (0, .ref (ad (7 + b))), (1, .int x1), (2, .int x2), (3, .int x3)]) hx hb1 dX2_fillLine_29 hl (k := 5) rfl rfl (by decide) rfl (fun ls hl => ?_)
        refine lv_goto (tgt := 6) hx hb1 dX2_fillLine_32 (by decide) ?_
        exact ih v17 (x6 + (1 : Int32)) σ15 _ _ ls hq h (lv_sub hl [2, 3, 4, 5, 1, 0] rfl)
  subst hargs
  refine hh_entry (vs := [.ref (ad (7 + b)), .int x1, .int x2, .int x3]) (Nat.le_of_ble_eq_true rfl) (fun ls hl => ?_)
  have hl : lv_has ls 7 [(0, .ref (ad (7 + b))), (1, .int x1), (2, .int x2), (3, .int x3)] := hl
  have hq : wp_X2_fillLine b x1 x2 x3 σ Q := hq
  unfold wp_X2_fillLine at hq
  refine lv_lconst (v := (0 : Int64)) hx hb1 dX2_fillLine_0 (by decide) ?_
  refine lv_lstore (lv' := [(4, .long (0 : Int64)), (0, .ref (ad (7 + b))), (1, .int x1), (2, .int x2), (3, .int x3)]) hx hb1 dX2_fillLine_1 hl (by decide) rfl (fun ls hl => ?_)
  refine lv_iconst (v := (0 : Int32)) hx hb1 dX2_fillLine_3 (by decide) ?_
  refine lv_istore (lv' := [(6, .int (0 : Int32)), (4, .long (0 : Int64)), (0, .ref (ad (7 + b))), (1, .int x1), (2, .int x2), (3, .int x3)]) hx hb1 dX2_fillLine_4 hl (by decide) rfl (fun ls hl => ?_)
  obtain ⟨n18, hq⟩ := hq
  exact lt_6 x1 x2 x3 n18 (0 : Int64) (0 : Int32) σ _ _ ls hq h (lv_sub hl [2, 3, 4, 5, 1, 0] rfl)
theorem nd_X2_fillTables : yX2_fillTables.cls = RX2 ∧ yX2_fillTables.cls ≠ "java/lang/invoke/MethodHandle" ∧ yX2_fillTables.cls ≠ "java/lang/invoke/VarHandle" ∧ (parseMethodDescriptor yX2_fillTables.desc).map (fun d => d.parameters.length) = some 1 := by decide +kernel
abbrev rm_X2_fillTables : Room := { frames := 2, cells := 0, slots := 0, locals := 48 }
def wq_X2_fillTables_9 (b : Nat) (K2 : Int32 → hh_S → Prop) (x1 : Int32) (x2 : Int32) (Q : hh_S → Prop) (K9 : Int32 → hh_S → Prop) (x3 : Int32) (σ : hh_S) : Prop := ((x2 ≤ x3 → (K2 (x2 + (1 : Int32)) σ)) ∧ (¬ x2 ≤ x3 → (wp_X2_fillLine b x1 x2 x3 σ (fun (σ3 : hh_S) => (K9 (x3 + (1 : Int32)) σ3)))))
def wq_X2_fillTables_2 (b : Nat) (x1 : Int32) (Q : hh_S → Prop) (K2 : Int32 → hh_S → Prop) (x2 : Int32) (σ : hh_S) : Prop := (((4 : Int32) < x2 → (Q σ)) ∧ (¬ (4 : Int32) < x2 → (∃ n : Nat, hh_lp1 (wq_X2_fillTables_9 b K2 x1 x2 Q) n (0 : Int32) σ)))
def wp_X2_fillTables (b : Nat) (x1 : Int32) (σ : hh_S) (Q : hh_S → Prop) : Prop := (∃ n : Nat, hh_lp1 (wq_X2_fillTables_2 b x1 Q) n (2 : Int32) σ)
theorem in_X2_fillTables_X2 : ∀ w ∈ u_ws RX2 TX2 9, w ∈ wsX2_fillTables := fun w h => List.mem_cons_of_mem _ (List.mem_append_right _ h)
set_option maxHeartbeats 4000000 in
set_option maxRecDepth 100000 in
theorem ad_X2_fillTables {D : va_G} (l : Launch) {cy : Nat → ClassId} {ad : Nat → Nat} (J : hh_J hc_Y ad) {b : Nat} (hb : b = 0 ∨ b = 1) (x1 : Int32) (σ : hh_S) (Q : hh_S → Prop) (hq : wp_X2_fillTables b x1 σ Q) : Met l yX2_fillTables wsX2_fillTables rm_X2_fillTables (va_Pc [.ref (ad (7 + b)), .int x1] (hh_B D hh_cl hc_Y cy ad σ)) (va_Qv Q (hh_B D hh_cl hc_Y cy ad) (hh_A hc_Y ad)) 0 0 (hh_A hc_Y ad) := by
  refine Met.ofW (cc := cX2_fillTables) (maxL := 4) (ret := none) (by decide) rfl ?_
  intro p e s m args below meth c s₁ B hml hv
  obtain ⟨hargs, hP0, hK0⟩ := hv
  have hr := B.returns
  have hlocks := B.notSynchronized
  have X : hh_X p m c cX2_fillTables 4 s args wsX2_fillTables RX2 D hh_cl hc_Y cy ad := ⟨⟨B.exec, B.bytes, hml, findClass_of_methodNamed B.named, atoms_spec (ws := wsX2_fillTables) B.pre⟩, hK0, J⟩
  have hx := X.1.1
  have hb1 := X.1.2.1
  have h : hh_H D hh_cl hc_Y cy ad s.heap σ s.heap [] := ⟨hP0, va_S.rf⟩
  have lt_9 : ∀ (x1 : Int32) (x2 : Int32) (K2 : Int32 → hh_S → Prop) (hK2 : ∀ (x2 : Int32) (σ : hh_S) (H : Heap) (locs : List Loc) (ls : Array Slot), K2 x2 σ → hh_H D hh_cl hc_Y cy ad s.heap σ H locs → lv_has ls 4 [(0, .ref (ad (7 + b))), (1, .int x1), (2, .int x2)] → W p l e (headSpec wsX2_fillTables rm_X2_fillTables).room s m args below meth c H locs 0 0 (MQ below (va_Qv Q (hh_B D hh_cl hc_Y cy ad) (hh_A hc_Y ad)) args s 0 0 (hh_A hc_Y ad)) (F0 m 2 ls [])) (n : Nat) (x3 : Int32) (σ : hh_S) (H : Heap) (locs : List Loc) (ls : Array Slot), hh_lp1 (wq_X2_fillTables_9 b K2 x1 x2 Q) n x3 σ → hh_H D hh_cl hc_Y cy ad s.heap σ H locs → lv_has ls 4 [(0, .ref (ad (7 + b))), (1, .int x1), (2, .int x2), (3, .int x3)] → W p l e (headSpec wsX2_fillTables rm_X2_fillTables).room s m args below meth c H locs 0 0 (MQ below (va_Qv Q (hh_B D hh_cl hc_Y cy ad) (hh_A hc_Y ad)) args s 0 0 (hh_A hc_Y ad)) (F0 m 9 ls []) := by
    intro x1 x2 K2 hK2 n
    induction n with
    | zero => intro x3 σ H locs ls hq h hl; exact hq.elim
    | succ n ih =>
      intro x3 σ H locs ls hq h hl
      have hq : wq_X2_fillTables_9 b K2 x1 x2 Q (hh_lp1 (wq_X2_fillTables_9 b K2 x1 x2 Q) n) x3 σ := hq
      unfold wq_X2_fillTables_9 at hq
      refine lv_iload_n hx hb1 dX2_fillTables_9 rfl (lv_at hl 3 rfl) ?_
      refine lv_iload_n hx hb1 dX2_fillTables_10 rfl (lv_at hl 2 rfl) ?_
      refine lv_icmp_ge (tgt := 27) hx hb1 dX2_fillTables_11 (by decide) (fun c1 => ?_) (fun c1 => ?_)
      · have hq := hq.1 c1
        refine lv_iinc (v := (x2 + (1 : Int32))) (lv' := [(2, .int (x2 + (1 : Int32))), (0, .ref (ad (7 + b))), (1, .int x1), (3, .int x3)]) hx hb1 dX2_fillTables_27 hl (k := 2) rfl rfl (by decide) rfl (fun ls hl => ?_)
        refine lv_goto (tgt := 2) hx hb1 dX2_fillTables_30 (by decide) ?_
        exact hK2 (x2 + (1 : Int32)) σ _ _ ls hq h (lv_sub hl [1, 2, 0] rfl)
      · have hq := hq.2 c1
        refine lv_aload_n hx hb1 dX2_fillTables_14 rfl (lv_at hl 0 rfl) ?_
        refine lv_iload_n hx hb1 dX2_fillTables_15 rfl (lv_at hl 1 rfl) ?_
        refine lv_iload_n hx hb1 dX2_fillTables_16 rfl (lv_at hl 2 rfl) ?_
        refine lv_iload_n hx hb1 dX2_fillTables_17 rfl (lv_at hl 3 rfl) ?_
        refine hh_kV h (va_runV (As := [.int x1, .int x2, .int x3]) (rest := []) X.1 (ad_X2_fillLine (D := D) l J (b := b) hb x1 x2 x3 σ _ hq) (cwV 3 X.1.2.2.2.2 gX2_fillTables_X2_fillLine rfl rfl rfl nd_X2_fillLine ⟨Nat.le_of_ble_eq_true rfl, Nat.le_of_ble_eq_true rfl⟩) (hh_preV X h (fj_0 hb) (kj hb) [.int x1, .int x2, .int x3]) rfl rfl hl.1 rfl (lv_room (Nat.le_of_ble_eq_true rfl)) dX2_fillTables_18 ⟨Nat.le_of_ble_eq_true rfl, Nat.le_of_ble_eq_true rfl⟩) (fun σ3 H locs hq h => ?_)
        refine lv_iinc (v := (x3 + (1 : Int32))) (lv' := [(3, .int (x3 + (1 : Int32))), (0, .ref (ad (7 + b))), (1, .int x1), (2, .int x2)]) hx hb1 dX2_fillTables_21 hl (k := 3) rfl rfl (by decide) rfl (fun ls hl => ?_)
        refine lv_goto (tgt := 9) hx hb1 dX2_fillTables_24 (by decide) ?_
        exact ih (x3 + (1 : Int32)) σ3 _ _ ls hq h (lv_sub hl [1, 2, 3, 0] rfl)
  have lt_2 : ∀ (x1 : Int32) (n : Nat) (x2 : Int32) (σ : hh_S) (H : Heap) (locs : List Loc) (ls : Array Slot), hh_lp1 (wq_X2_fillTables_2 b x1 Q) n x2 σ → hh_H D hh_cl hc_Y cy ad s.heap σ H locs → lv_has ls 4 [(0, .ref (ad (7 + b))), (1, .int x1), (2, .int x2)] → W p l e (headSpec wsX2_fillTables rm_X2_fillTables).room s m args below meth c H locs 0 0 (MQ below (va_Qv Q (hh_B D hh_cl hc_Y cy ad) (hh_A hc_Y ad)) args s 0 0 (hh_A hc_Y ad)) (F0 m 2 ls []) := by
    intro x1 n
    induction n with
    | zero => intro x2 σ H locs ls hq h hl; exact hq.elim
    | succ n ih =>
      intro x2 σ H locs ls hq h hl
      have hq : wq_X2_fillTables_2 b x1 Q (hh_lp1 (wq_X2_fillTables_2 b x1 Q) n) x2 σ := hq
      unfold wq_X2_fillTables_2 at hq
      refine lv_iload_n hx hb1 dX2_fillTables_2 rfl (lv_at hl 2 rfl) ?_
      refine lv_iconst (v := (4 : Int32)) hx hb1 dX2_fillTables_3 (by decide) ?_
      refine lv_icmp_gt (tgt := 33) hx hb1 dX2_fillTables_4 (by decide) (fun c4 => ?_) (fun c4 => ?_)
      · have hq := hq.1 c4
        exact hh_vret X h hr hlocks hq dX2_fillTables_33
      · have hq := hq.2 c4
        refine lv_iconst (v := (0 : Int32)) hx hb1 dX2_fillTables_7 (by decide) ?_
        refine lv_istore_n (lv' := [(3, .int (0 : Int32)), (0, .ref (ad (7 + b))), (1, .int x1), (2, .int x2)]) hx hb1 dX2_fillTables_8 rfl hl (by decide) rfl (fun ls hl => ?_)
        obtain ⟨n5, hq⟩ := hq
        exact lt_9 x1 x2 (hh_lp1 (wq_X2_fillTables_2 b x1 Q) n) ih n5 (0 : Int32) σ _ _ ls hq h (lv_sub hl [1, 2, 3, 0] rfl)
  subst hargs
  refine hh_entry (vs := [.ref (ad (7 + b)), .int x1]) (Nat.le_of_ble_eq_true rfl) (fun ls hl => ?_)
  have hl : lv_has ls 4 [(0, .ref (ad (7 + b))), (1, .int x1)] := hl
  have hq : wp_X2_fillTables b x1 σ Q := hq
  unfold wp_X2_fillTables at hq
  refine lv_iconst (v := (2 : Int32)) hx hb1 dX2_fillTables_0 (by decide) ?_
  refine lv_istore_n (lv' := [(2, .int (2 : Int32)), (0, .ref (ad (7 + b))), (1, .int x1)]) hx hb1 dX2_fillTables_1 rfl hl (by decide) rfl (fun ls hl => ?_)
  obtain ⟨n6, hq⟩ := hq
  exact lt_2 x1 n6 (2 : Int32) σ _ _ ls hq h (lv_sub hl [1, 2, 0] rfl)
theorem nd_X2_takeFresh : yX2_takeFresh.cls = RX2 ∧ yX2_takeFresh.cls ≠ "java/lang/invoke/MethodHandle" ∧ yX2_takeFresh.cls ≠ "java/lang/invoke/VarHandle" ∧ (parseMethodDescriptor yX2_takeFresh.desc).map (fun d => d.parameters.length) = some 1 := by decide +kernel
abbrev rm_X2_takeFresh : Room := { frames := 1, cells := 0, slots := 0, locals := 40 }
def wq_X2_takeFresh_4 (b : Nat) (x1 : Int32) (Q : Int32 → hh_S → Prop) (K4 : Int32 → Int32 → hh_S → Prop) (x2 : Int32) (x3 : Int32) (σ : hh_S) : Prop := (vp_in x1 24 ∧ (((hh_rA σ 22 x1) ≤ x3 → (Q x2 σ)) ∧ (¬ (hh_rA σ 22 x1) ≤ x3 → (vp_in x3 4 ∧ (∀ v4 : Int32, v4 = ((hh_rB σ (33 + 6 * b) x3).toInt32) → (vp_in x1 24 ∧ (vp_in x3 4 ∧ (∀ v7 : Int32, v7 = (if x2 < (if 0 ≤ (v4 - (hh_rA σ ((55 + 34 * b) + (x1).toNatClampNeg) x3)) then (v4 - (hh_rA σ ((55 + 34 * b) + (x1).toNatClampNeg) x3)) else 0 - (v4 - (hh_rA σ ((55 + 34 * b) + (x1).toNatClampNeg) x3))) then (if 0 ≤ (v4 - (hh_rA σ ((55 + 34 * b) + (x1).toNatClampNeg) x3)) then (v4 - (hh_rA σ ((55 + 34 * b) + (x1).toNatClampNeg) x3)) else 0 - (v4 - (hh_rA σ ((55 + 34 * b) + (x1).toNatClampNeg) x3))) else x2) → (vp_in x1 24 ∧ (vp_in x3 4 ∧ ∀ σ10 : hh_S, σ10 = hh_sA σ ((55 + 34 * b) + (x1).toNatClampNeg) x3 v4 → (K4 v7 (x3 + (1 : Int32)) σ10)))))))))))
def wp_X2_takeFresh (b : Nat) (x1 : Int32) (σ : hh_S) (Q : Int32 → hh_S → Prop) : Prop := (∃ n : Nat, hh_lp2 (wq_X2_takeFresh_4 b x1 Q) n (0 : Int32) (0 : Int32) σ)
theorem in_X2_takeFresh_X2 : ∀ w ∈ u_ws RX2 TX2 9, w ∈ wsX2_takeFresh := fun w h => List.mem_cons_of_mem _ (List.mem_append_left _ (List.mem_append_right _ h))
theorem in_X2_takeFresh_X1 : ∀ w ∈ u_ws RX1 TX1 7, w ∈ wsX2_takeFresh := fun w h => List.mem_cons_of_mem _ (List.mem_append_right _ h)
set_option maxHeartbeats 4000000 in
set_option maxRecDepth 100000 in
theorem ad_X2_takeFresh {D : va_G} (l : Launch) {cy : Nat → ClassId} {ad : Nat → Nat} (J : hh_J hc_Y ad) {b : Nat} (hb : b = 0 ∨ b = 1) (x1 : Int32) (σ : hh_S) (Q : Int32 → hh_S → Prop) (hq : wp_X2_takeFresh b x1 σ Q) : Met l yX2_takeFresh wsX2_takeFresh rm_X2_takeFresh (va_Pc [.ref (ad (7 + b)), .int x1] (hh_B D hh_cl hc_Y cy ad σ)) (va_Qi Q (hh_B D hh_cl hc_Y cy ad) (hh_A hc_Y ad)) 0 0 (hh_A hc_Y ad) := by
  refine Met.ofW (cc := cX2_takeFresh) (maxL := 5) (ret := (some .int)) (by decide) rfl ?_
  intro p e s m args below meth c s₁ B hml hv
  obtain ⟨hargs, hP0, hK0⟩ := hv
  have hr := B.returns
  have hlocks := B.notSynchronized
  have X : hh_X p m c cX2_takeFresh 5 s args wsX2_takeFresh RX2 D hh_cl hc_Y cy ad := ⟨⟨B.exec, B.bytes, hml, findClass_of_methodNamed B.named, atoms_spec (ws := wsX2_takeFresh) B.pre⟩, hK0, J⟩
  have hx := X.1.1
  have hb1 := X.1.2.1
  have h : hh_H D hh_cl hc_Y cy ad s.heap σ s.heap [] := ⟨hP0, va_S.rf⟩
  have lt_4 : ∀ (x1 : Int32) (n : Nat) (x2 : Int32) (x3 : Int32) (σ : hh_S) (H : Heap) (locs : List Loc) (ls : Array Slot), hh_lp2 (wq_X2_takeFresh_4 b x1 Q) n x2 x3 σ → hh_H D hh_cl hc_Y cy ad s.heap σ H locs → lv_has ls 5 [(0, .ref (ad (7 + b))), (1, .int x1), (2, .int x2), (3, .int x3)] → W p l e (headSpec wsX2_takeFresh rm_X2_takeFresh).room s m args below meth c H locs 0 0 (MQ below (va_Qi Q (hh_B D hh_cl hc_Y cy ad) (hh_A hc_Y ad)) args s 0 0 (hh_A hc_Y ad)) (F0 m 4 ls []) := by
    intro x1 n
    induction n with
    | zero => intro x2 x3 σ H locs ls hq h hl; exact hq.elim
    | succ n ih =>
      intro x2 x3 σ H locs ls hq h hl
      have hq : wq_X2_takeFresh_4 b x1 Q (hh_lp2 (wq_X2_takeFresh_4 b x1 Q) n) x2 x3 σ := hq
      unfold wq_X2_takeFresh_4 at hq
      refine lv_iload_n hx hb1 dX2_takeFresh_4 rfl (lv_at hl 3 rfl) ?_
      refine lv_aload_n hx hb1 dX2_takeFresh_5 rfl (lv_at hl 0 rfl) ?_
      refine hh_getr X h (fj_2 hb) in_X2_takeFresh_X2 (kj hb) (by decide) (List.mem_of_getElem? (i := 1) rfl) rfl dX2_takeFresh_6 ?_
      refine hh_getr X h fc_4_3 in_X2_takeFresh_X1 kc_4 (by decide) (List.mem_of_getElem? (i := 2) rfl) rfl dX2_takeFresh_9 ?_
      refine lv_iload_n hx hb1 dX2_takeFresh_12 rfl (lv_at hl 1 rfl) ?_
      obtain ⟨h1, hq⟩ := hq
      refine hh_ild X h ac_22 h1 dX2_takeFresh_13 ?_
      refine lv_icmp_ge (tgt := 61) hx hb1 dX2_takeFresh_14 (by decide) (fun c2 => ?_) (fun c2 => ?_)
      · have hq := hq.1 c2
        refine lv_iload_n hx hb1 dX2_takeFresh_61 rfl (lv_at hl 2 rfl) ?_
        exact hh_iret X h hr hlocks hq dX2_takeFresh_62
      · have hq := hq.2 c2
        refine lv_aload_n hx hb1 dX2_takeFresh_17 rfl (lv_at hl 0 rfl) ?_
        refine hh_getr X h (fj_6 hb) in_X2_takeFresh_X2 (kj hb) (by decide) (List.mem_of_getElem? (i := 3) rfl) rfl dX2_takeFresh_18 ?_
        refine lv_iload_n hx hb1 dX2_takeFresh_21 rfl (lv_at hl 3 rfl) ?_
        obtain ⟨h3, hq⟩ := hq
        refine hh_lld X h (aj_33 hb) h3 dX2_takeFresh_22 ?_
        refine lv_l2i (v := ((hh_rB σ (33 + 6 * b) x3)).toInt32) hx hb1 dX2_takeFresh_23 rfl ?_
        refine lv_topi (fun v4 ev4 => ?_)
        have hq := hq v4 ev4
        refine lv_istore (lv' := [(4, .int v4), (0, .ref (ad (7 + b))), (1, .int x1), (2, .int x2), (3, .int x3)]) hx hb1 dX2_takeFresh_24 hl (by decide) rfl (fun ls hl => ?_)
        refine lv_iload_n hx hb1 dX2_takeFresh_26 rfl (lv_at hl 3 rfl) ?_
        refine lv_iload hx hb1 dX2_takeFresh_27 (lv_at hl 0 rfl) ?_
        refine lv_aload_n hx hb1 dX2_takeFresh_29 rfl (lv_at hl 1 rfl) ?_
        refine hh_getr X h (fj_0 hb) in_X2_takeFresh_X2 (kj hb) (by decide) (List.mem_of_getElem? (i := 4) rfl) rfl dX2_takeFresh_30 ?_
        refine lv_iload_n hx hb1 dX2_takeFresh_33 rfl (lv_at hl 2 rfl) ?_
        obtain ⟨h5, hq⟩ := hq
        refine hh_ald X h (aj_30 hb) h5 dX2_takeFresh_34 ?_
        refine lv_iload_n hx hb1 dX2_takeFresh_35 rfl (lv_at hl 4 rfl) ?_
        obtain ⟨h6, hq⟩ := hq
        refine hh_ild X h (ar_sh hb h5) h6 dX2_takeFresh_36 ?_
        refine lv_isub hx hb1 dX2_takeFresh_37 ?_
        refine va_mabs hx hb1 (X.1.2.2.1.trans hl.1.symm) X.1.2.2.2.1 (X.1.2.2.2.2 _ (List.mem_of_getElem? (i := 5) rfl)) (X.1.2.2.2.2 _ (List.mem_of_getElem? (i := 6) rfl)) (X.1.2.2.2.2 _ (List.mem_of_getElem? (i := 7) rfl)) (X.1.2.2.2.2 _ (List.mem_of_getElem? (i := 8) rfl)) (Nat.le_of_ble_eq_true rfl) (Nat.le_of_ble_eq_true rfl) (Nat.zero_le _) (Nat.zero_le _) dX2_takeFresh_38 ?_
        refine va_mmax hx hb1 (X.1.2.2.1.trans hl.1.symm) X.1.2.2.2.1 (X.1.2.2.2.2 _ (List.mem_of_getElem? (i := 9) rfl)) (X.1.2.2.2.2 _ (List.mem_of_getElem? (i := 10) rfl)) (X.1.2.2.2.2 _ (List.mem_of_getElem? (i := 7) rfl)) (X.1.2.2.2.2 _ (List.mem_of_getElem? (i := 11) rfl)) (Nat.le_of_ble_eq_true rfl) (Nat.le_of_ble_eq_true rfl) (Nat.zero_le _) (Nat.zero_le _) dX2_takeFresh_41 ?_
        refine lv_topi (fun v7 ev7 => ?_)
        have hq := hq v7 ev7
        refine lv_istore_n (lv' := [(2, .int v7), (4, .int v4), (0, .ref (ad (7 + b))), (1, .int x1), (3, .int x3)]) hx hb1 dX2_takeFresh_44 rfl hl (by decide) rfl (fun ls hl => ?_)
        refine lv_aload_n hx hb1 dX2_takeFresh_45 rfl (lv_at hl 2 rfl) ?_
        refine hh_getr X h (fj_0 hb) in_X2_takeFresh_X2 (kj hb) (by decide) (List.mem_of_getElem? (i := 4) rfl) rfl dX2_takeFresh_46 ?_
        refine lv_iload_n hx hb1 dX2_takeFresh_49 rfl (lv_at hl 3 rfl) ?_
        obtain ⟨h8, hq⟩ := hq
        refine hh_ald X h (aj_30 hb) h8 dX2_takeFresh_50 ?_
        refine lv_iload_n hx hb1 dX2_takeFresh_51 rfl (lv_at hl 4 rfl) ?_
        refine lv_iload hx hb1 dX2_takeFresh_52 (lv_at hl 1 rfl) ?_
        obtain ⟨h9, hq⟩ := hq
        refine hh_ist X h (ar_sh hb h8) h9 dX2_takeFresh_54 (fun σ10 H locs eσ10 h => ?_)
        have hq := hq σ10 eσ10
        refine lv_iinc (v := (x3 + (1 : Int32))) (lv' := [(3, .int (x3 + (1 : Int32))), (2, .int v7), (4, .int v4), (0, .ref (ad (7 + b))), (1, .int x1)]) hx hb1 dX2_takeFresh_55 hl (k := 4) rfl rfl (by decide) rfl (fun ls hl => ?_)
        refine lv_goto (tgt := 4) hx hb1 dX2_takeFresh_58 (by decide) ?_
        exact ih v7 (x3 + (1 : Int32)) σ10 _ _ ls hq h (lv_sub hl [3, 4, 1, 0] rfl)
  subst hargs
  refine hh_entry (vs := [.ref (ad (7 + b)), .int x1]) (Nat.le_of_ble_eq_true rfl) (fun ls hl => ?_)
  have hl : lv_has ls 5 [(0, .ref (ad (7 + b))), (1, .int x1)] := hl
  have hq : wp_X2_takeFresh b x1 σ Q := hq
  unfold wp_X2_takeFresh at hq
  refine lv_iconst (v := (0 : Int32)) hx hb1 dX2_takeFresh_0 (by decide) ?_
  refine lv_istore_n (lv' := [(2, .int (0 : Int32)), (0, .ref (ad (7 + b))), (1, .int x1)]) hx hb1 dX2_takeFresh_1 rfl hl (by decide) rfl (fun ls hl => ?_)
  refine lv_iconst (v := (0 : Int32)) hx hb1 dX2_takeFresh_2 (by decide) ?_
  refine lv_istore_n (lv' := [(3, .int (0 : Int32)), (2, .int (0 : Int32)), (0, .ref (ad (7 + b))), (1, .int x1)]) hx hb1 dX2_takeFresh_3 rfl hl (by decide) rfl (fun ls hl => ?_)
  obtain ⟨n11, hq⟩ := hq
  exact lt_4 x1 n11 (0 : Int32) (0 : Int32) σ _ _ ls hq h (lv_sub hl [2, 3, 1, 0] rfl)
theorem nd_X2_alike : yX2_alike.cls ≠ "java/lang/invoke/MethodHandle" ∧ yX2_alike.cls ≠ "java/lang/invoke/VarHandle" ∧ (parseMethodDescriptor yX2_alike.desc).map (fun d => d.parameters.length) = some 1 := by decide +kernel
abbrev rm_X2_alike : Room := { frames := 0, cells := 0, slots := 0, locals := 0 }
def wp_X2_alike (x0 : Int32) (σ : hh_S) (Q : Int32 → hh_S → Prop) : Prop := ((x0 ≤ 0 → (Q (0 : Int32) σ)) ∧ (¬ x0 ≤ 0 → ((¬ x0 = 0) ∧ (Q ((1000000 : Int32) / x0) σ))))
set_option maxHeartbeats 4000000 in
set_option maxRecDepth 100000 in
theorem ad_X2_alike {D : va_G} (l : Launch) {cy : Nat → ClassId} {ad : Nat → Nat} (J : hh_J hc_Y ad) (x0 : Int32) (σ : hh_S) (Q : Int32 → hh_S → Prop) (hq : wp_X2_alike x0 σ Q) : Met l yX2_alike wsX2_alike rm_X2_alike (va_Pc [.int x0] (hh_B D hh_cl hc_Y cy ad σ)) (va_Qi Q (hh_B D hh_cl hc_Y cy ad) (hh_A hc_Y ad)) 0 0 (hh_A hc_Y ad) := by
  refine Met.ofW (cc := cX2_alike) (maxL := 1) (ret := (some .int)) (by decide) rfl ?_
  intro p e s m args below meth c s₁ B hml hv
  obtain ⟨hargs, hP0, hK0⟩ := hv
  have hr := B.returns
  have hlocks := B.notSynchronized
  have X : hh_X p m c cX2_alike 1 s args wsX2_alike RX2 D hh_cl hc_Y cy ad := ⟨⟨B.exec, B.bytes, hml, findClass_of_methodNamed B.named, atoms_spec (ws := wsX2_alike) B.pre⟩, hK0, J⟩
  have hx := X.1.1
  have hb1 := X.1.2.1
  have h : hh_H D hh_cl hc_Y cy ad s.heap σ s.heap [] := ⟨hP0, va_S.rf⟩
  subst hargs
  refine hh_entry (vs := [.int x0]) (Nat.le_of_ble_eq_true rfl) (fun ls hl => ?_)
  have hl : lv_has ls 1 [(0, .int x0)] := hl
  have hq : wp_X2_alike x0 σ Q := hq
  unfold wp_X2_alike at hq
  refine lv_iload_n hx hb1 dX2_alike_0 rfl (lv_at hl 0 rfl) ?_
  refine lv_if_le (tgt := 11) hx hb1 dX2_alike_1 (by decide) (fun c1 => ?_) (fun c1 => ?_)
  · have hq := hq.1 c1
    refine lv_iconst (v := (0 : Int32)) hx hb1 dX2_alike_11 (by decide) ?_
    exact hh_iret X h hr hlocks hq dX2_alike_12
  · have hq := hq.2 c1
    refine lv_ldc (v := (1000000 : Int32)) hx hb1 X.1.2.2.2.1 (X.1.2.2.2.2 _ (List.mem_of_getElem? (i := 1) rfl)) dX2_alike_4 ?_
    refine lv_iload_n hx hb1 dX2_alike_6 rfl (lv_at hl 0 rfl) ?_
    obtain ⟨h2, hq⟩ := hq
    refine lv_idiv hx hb1 dX2_alike_7 h2 ?_
    refine lv_goto (tgt := 12) hx hb1 dX2_alike_8 (by decide) ?_
    exact hh_iret X h hr hlocks hq dX2_alike_12
theorem nd_X2_weigh : yX2_weigh.cls = RX2 ∧ yX2_weigh.cls ≠ "java/lang/invoke/MethodHandle" ∧ yX2_weigh.cls ≠ "java/lang/invoke/VarHandle" ∧ (parseMethodDescriptor yX2_weigh.desc).map (fun d => d.parameters.length) = some 3 := by decide +kernel
abbrev rm_X2_weigh : Room := { frames := 1, cells := 0, slots := 0, locals := 22 }
def wq_X2_weigh_71 (b : Nat) (x2 : Int32) (x4 : Int64) (Q : hh_S → Prop) (K71 : Int32 → hh_S → Prop) (x6 : Int32) (σ : hh_S) : Prop := ((x2 ≤ x6 → (Q σ)) ∧ (¬ x2 ≤ x6 → (vp_in x6 4 ∧ ((¬ x4 = 0) ∧ (vp_in x6 4 ∧ ∀ σ5 : hh_S, σ5 = hh_sB σ (33 + 6 * b) x6 (((hh_rB σ (34 + 6 * b) x6) * (1000000 : Int64)) / x4) → (K71 (x6 + (1 : Int32)) σ5))))))
def wq_X2_weigh_6 (b : Nat) (x1 : Int32) (x2 : Int32) (x3 : Int32) (Q : hh_S → Prop) (K6 : Int64 → Int32 → hh_S → Prop) (x4 : Int64) (x6 : Int32) (σ : hh_S) : Prop := ((x2 ≤ x6 → ((0 < (lg_cmp x4 (0 : Int64)) → (∃ n : Nat, hh_lp1 (wq_X2_weigh_71 b x2 x4 Q) n (0 : Int32) σ)) ∧ (¬ 0 < (lg_cmp x4 (0 : Int64)) → (Q σ)))) ∧ (¬ x2 ≤ x6 → (vp_in x6 4 ∧ (vp_in x1 10 ∧ (wp_X2_spot x2 x6 x3 σ (fun (r11 : Int32) (σ12 : hh_S) => (vp_in r11 48 ∧ (vp_in x6 4 ∧ ∀ σ15 : hh_S, σ15 = hh_sB σ12 (34 + 6 * b) x6 ((hh_rB σ (33 + 6 * b) x6) * ((hh_rA σ12 ((79 + 34 * b) + (x1).toNatClampNeg) r11).toInt64)) → (vp_in x6 4 ∧ (∀ v17 : Int64, v17 = (x4 + (hh_rB σ15 (34 + 6 * b) x6)) → (K6 v17 (x6 + (1 : Int32)) σ15)))))))))))
def wp_X2_weigh (b : Nat) (x1 : Int32) (x2 : Int32) (x3 : Int32) (σ : hh_S) (Q : hh_S → Prop) : Prop := (∃ n : Nat, hh_lp2 (wq_X2_weigh_6 b x1 x2 x3 Q) n (0 : Int64) (0 : Int32) σ)
theorem in_X2_weigh_X2 : ∀ w ∈ u_ws RX2 TX2 9, w ∈ wsX2_weigh := fun w h => List.mem_cons_of_mem _ (List.mem_append_right _ h)
set_option maxHeartbeats 4000000 in
set_option maxRecDepth 100000 in
theorem ad_X2_weigh {D : va_G} (l : Launch) {cy : Nat → ClassId} {ad : Nat → Nat} (J : hh_J hc_Y ad) {b : Nat} (hb : b = 0 ∨ b = 1) (x1 : Int32) (x2 : Int32) (x3 : Int32) (σ : hh_S) (Q : hh_S → Prop) (hq : wp_X2_weigh b x1 x2 x3 σ Q) : Met l yX2_weigh wsX2_weigh rm_X2_weigh (va_Pc [.ref (ad (7 + b)), .int x1, .int x2, .int x3] (hh_B D hh_cl hc_Y cy ad σ)) (va_Qv Q (hh_B D hh_cl hc_Y cy ad) (hh_A hc_Y ad)) 0 0 (hh_A hc_Y ad) := by
  refine Met.ofW (cc := cX2_weigh) (maxL := 7) (ret := none) (by decide) rfl ?_
  intro p e s m args below meth c s₁ B hml hv
  obtain ⟨hargs, hP0, hK0⟩ := hv
  have hr := B.returns
  have hlocks := B.notSynchronized
  have X : hh_X p m c cX2_weigh 7 s args wsX2_weigh RX2 D hh_cl hc_Y cy ad := ⟨⟨B.exec, B.bytes, hml, findClass_of_methodNamed B.named, atoms_spec (ws := wsX2_weigh) B.pre⟩, hK0, J⟩
  have hx := X.1.1
  have hb1 := X.1.2.1
  have h : hh_H D hh_cl hc_Y cy ad s.heap σ s.heap [] := ⟨hP0, va_S.rf⟩
  have lt_71 : ∀ (x2 : Int32) (x4 : Int64) (n : Nat) (x6 : Int32) (σ : hh_S) (H : Heap) (locs : List Loc) (ls : Array Slot), hh_lp1 (wq_X2_weigh_71 b x2 x4 Q) n x6 σ → hh_H D hh_cl hc_Y cy ad s.heap σ H locs → lv_has ls 7 [(0, .ref (ad (7 + b))), (2, .int x2), (4, .long x4), (6, .int x6)] → W p l e (headSpec wsX2_weigh rm_X2_weigh).room s m args below meth c H locs 0 0 (MQ below (va_Qv Q (hh_B D hh_cl hc_Y cy ad) (hh_A hc_Y ad)) args s 0 0 (hh_A hc_Y ad)) (F0 m 71 ls []) := by
    intro x2 x4 n
    induction n with
    | zero => intro x6 σ H locs ls hq h hl; exact hq.elim
    | succ n ih =>
      intro x6 σ H locs ls hq h hl
      have hq : wq_X2_weigh_71 b x2 x4 Q (hh_lp1 (wq_X2_weigh_71 b x2 x4 Q) n) x6 σ := hq
      unfold wq_X2_weigh_71 at hq
      refine lv_iload hx hb1 dX2_weigh_71 (lv_at hl 3 rfl) ?_
      refine lv_iload_n hx hb1 dX2_weigh_73 rfl (lv_at hl 1 rfl) ?_
      refine lv_icmp_ge (tgt := 104) hx hb1 dX2_weigh_74 (by decide) (fun c1 => ?_) (fun c1 => ?_)
      · have hq := hq.1 c1
        exact hh_vret X h hr hlocks hq dX2_weigh_104
      · have hq := hq.2 c1
        refine lv_aload_n hx hb1 dX2_weigh_77 rfl (lv_at hl 0 rfl) ?_
        refine hh_getr X h (fj_6 hb) in_X2_weigh_X2 (kj hb) (by decide) (List.mem_of_getElem? (i := 2) rfl) rfl dX2_weigh_78 ?_
        refine lv_iload hx hb1 dX2_weigh_81 (lv_at hl 3 rfl) ?_
        refine lv_aload_n hx hb1 dX2_weigh_83 rfl (lv_at hl 0 rfl) ?_
        refine hh_getr X h (fj_7 hb) in_X2_weigh_X2 (kj hb) (by decide) (List.mem_of_getElem? (i := 1) rfl) rfl dX2_weigh_84 ?_
        refine lv_iload hx hb1 dX2_weigh_87 (lv_at hl 3 rfl) ?_
        obtain ⟨h2, hq⟩ := hq
        refine hh_lld X h (aj_34 hb) h2 dX2_weigh_89 ?_
        refine lv_ldc2 (v := (1000000 : Int64)) hx hb1 X.1.2.2.2.1 (X.1.2.2.2.2 _ (List.mem_of_getElem? (i := 4) rfl)) dX2_weigh_90 ?_
        refine lv_lmul hx hb1 dX2_weigh_93 ?_
        refine lv_lload hx hb1 dX2_weigh_94 (lv_at hl 2 rfl) ?_
        obtain ⟨h3, hq⟩ := hq
        refine lv_ldiv hx hb1 dX2_weigh_96 h3 ?_
        obtain ⟨h4, hq⟩ := hq
        refine hh_lst X h (aj_33 hb) h4 dX2_weigh_97 (fun σ5 H locs eσ5 h => ?_)
        have hq := hq σ5 eσ5
        refine lv_iinc (v := (x6 + (1 : Int32))) (lv' := [(6, .int (x6 + (1 : Int32))), (0, .ref (ad (7 + b))), (2, .int x2), (4, .long x4)]) hx hb1 dX2_weigh_98 hl (k := 3) rfl rfl (by decide) rfl (fun ls hl => ?_)
        refine lv_goto (tgt := 71) hx hb1 dX2_weigh_101 (by decide) ?_
        exact ih (x6 + (1 : Int32)) σ5 _ _ ls hq h (lv_sub hl [1, 2, 3, 0] rfl)
  have lt_6 : ∀ (x1 : Int32) (x2 : Int32) (x3 : Int32) (n : Nat) (x4 : Int64) (x6 : Int32) (σ : hh_S) (H : Heap) (locs : List Loc) (ls : Array Slot), hh_lp2 (wq_X2_weigh_6 b x1 x2 x3 Q) n x4 x6 σ → hh_H D hh_cl hc_Y cy ad s.heap σ H locs → lv_has ls 7 [(0, .ref (ad (7 + b))), (1, .int x1), (2, .int x2), (3, .int x3), (4, .long x4), (6, .int x6)] → W p l e (headSpec wsX2_weigh rm_X2_weigh).room s m args below meth c H locs 0 0 (MQ below (va_Qv Q (hh_B D hh_cl hc_Y cy ad) (hh_A hc_Y ad)) args s 0 0 (hh_A hc_Y ad)) (F0 m 6 ls []) := by
    intro x1 x2 x3 n
    induction n with
    | zero => intro x4 x6 σ H locs ls hq h hl; exact hq.elim
    | succ n ih =>
      intro x4 x6 σ H locs ls hq h hl
      have hq : wq_X2_weigh_6 b x1 x2 x3 Q (hh_lp2 (wq_X2_weigh_6 b x1 x2 x3 Q) n) x4 x6 σ := hq
      unfold wq_X2_weigh_6 at hq
      refine lv_iload hx hb1 dX2_weigh_6 (lv_at hl 5 rfl) ?_
      refine lv_iload_n hx hb1 dX2_weigh_8 rfl (lv_at hl 2 rfl) ?_
      refine lv_icmp_ge (tgt := 60) hx hb1 dX2_weigh_9 (by decide) (fun c6 => ?_) (fun c6 => ?_)
      · have hq := hq.1 c6
        refine lv_lload hx hb1 dX2_weigh_60 (lv_at hl 4 rfl) ?_
        refine lv_lconst (v := (0 : Int64)) hx hb1 dX2_weigh_62 (by decide) ?_
        refine W.lcmp hx hb1 dX2_weigh_63 ?_
        refine lv_if_gt (tgt := 68) hx hb1 dX2_weigh_64 (by decide) (fun c7 => ?_) (fun c7 => ?_)
        · have hq := hq.1 c7
          refine lv_iconst (v := (0 : Int32)) hx hb1 dX2_weigh_68 (by decide) ?_
          refine lv_istore (lv' := [(6, .int (0 : Int32)), (0, .ref (ad (7 + b))), (1, .int x1), (2, .int x2), (3, .int x3), (4, .long x4)]) hx hb1 dX2_weigh_69 hl (by decide) rfl (fun ls hl => ?_)
          obtain ⟨n8, hq⟩ := hq
          exact lt_71 x2 x4 n8 (0 : Int32) σ _ _ ls hq h (lv_sub hl [1, 3, 5, 0] rfl)
        · have hq := hq.2 c7
          exact hh_vret X h hr hlocks hq dX2_weigh_67
      · have hq := hq.2 c6
        refine lv_aload_n hx hb1 dX2_weigh_12 rfl (lv_at hl 0 rfl) ?_
        refine hh_getr X h (fj_7 hb) in_X2_weigh_X2 (kj hb) (by decide) (List.mem_of_getElem? (i := 1) rfl) rfl dX2_weigh_13 ?_
        refine lv_iload hx hb1 dX2_weigh_16 (lv_at hl 5 rfl) ?_
        refine lv_aload_n hx hb1 dX2_weigh_18 rfl (lv_at hl 0 rfl) ?_
        refine hh_getr X h (fj_6 hb) in_X2_weigh_X2 (kj hb) (by decide) (List.mem_of_getElem? (i := 2) rfl) rfl dX2_weigh_19 ?_
        refine lv_iload hx hb1 dX2_weigh_22 (lv_at hl 5 rfl) ?_
        obtain ⟨h9, hq⟩ := hq
        refine hh_lld X h (aj_33 hb) h9 dX2_weigh_24 ?_
        refine lv_aload_n hx hb1 dX2_weigh_25 rfl (lv_at hl 0 rfl) ?_
        refine hh_getr X h (fj_1 hb) in_X2_weigh_X2 (kj hb) (by decide) (List.mem_of_getElem? (i := 3) rfl) rfl dX2_weigh_26 ?_
        refine lv_iload_n hx hb1 dX2_weigh_29 rfl (lv_at hl 1 rfl) ?_
        obtain ⟨h10, hq⟩ := hq
        refine hh_ald X h (aj_31 hb) h10 dX2_weigh_30 ?_
        refine lv_iload_n hx hb1 dX2_weigh_31 rfl (lv_at hl 2 rfl) ?_
        refine lv_iload hx hb1 dX2_weigh_32 (lv_at hl 5 rfl) ?_
        refine lv_iload_n hx hb1 dX2_weigh_34 rfl (lv_at hl 3 rfl) ?_
        refine hh_kI h (va_runS (As := [.int x2, .int x6, .int x3]) (rest := [.ref (ad ((79 + 34 * b) + (x1).toNatClampNeg)), .long (hh_rB σ (33 + 6 * b) x6), .int x6, .ref (ad (34 + 6 * b))]) X.1 (ad_X2_spot (D := D) l J x2 x6 x3 σ _ hq) (va_cwS 3 X.1.2.2.2.2 gX2_weigh_X2_spot rfl rfl rfl nd_X2_spot ⟨Nat.le_of_ble_eq_true rfl, Nat.le_of_ble_eq_true rfl⟩) (hh_preS X h [.int x2, .int x6, .int x3]) rfl rfl hl.1 rfl (lv_room (Nat.le_of_ble_eq_true rfl)) dX2_weigh_35 ⟨Nat.le_of_ble_eq_true rfl, Nat.le_of_ble_eq_true rfl⟩) (fun r11 σ12 H locs hq h => ?_)
        obtain ⟨h13, hq⟩ := hq
        refine hh_ild X h (ar_nu hb h10) h13 dX2_weigh_38 ?_
        refine lv_i2l (v := ((hh_rA σ12 ((79 + 34 * b) + (x1).toNatClampNeg) r11)).toInt64) hx hb1 dX2_weigh_39 rfl ?_
        refine lv_lmul hx hb1 dX2_weigh_40 ?_
        obtain ⟨h14, hq⟩ := hq
        refine hh_lst X h (aj_34 hb) h14 dX2_weigh_41 (fun σ15 H locs eσ15 h => ?_)
        have hq := hq σ15 eσ15
        refine lv_lload hx hb1 dX2_weigh_42 (lv_at hl 4 rfl) ?_
        refine lv_aload_n hx hb1 dX2_weigh_44 rfl (lv_at hl 0 rfl) ?_
        refine hh_getr X h (fj_7 hb) in_X2_weigh_X2 (kj hb) (by decide) (List.mem_of_getElem? (i := 1) rfl) rfl dX2_weigh_45 ?_
        refine lv_iload hx hb1 dX2_weigh_48 (lv_at hl 5 rfl) ?_
        obtain ⟨h16, hq⟩ := hq
        refine hh_lld X h (aj_34 hb) h16 dX2_weigh_50 ?_
        refine lv_ladd hx hb1 dX2_weigh_51 ?_
        refine lv_topl (fun v17 ev17 => ?_)
        have hq := hq v17 ev17
        refine lv_lstore (lv' := [(4, .long v17), (0, .ref (ad (7 + b))), (1, .int x1), (2, .int x2), (3, .int x3), (6, .int x6)]) hx hb1 dX2_weigh_52 hl (by decide) rfl (fun ls hl => ?_)
        refine lv_iinc (v := (x6 + (1 : Int32))) (lv' := [(6, .int (x6 + (1 : Int32))), (4, .long v17), (0, .ref (ad (7 + b))), (1, .int x1), (2, .int x2), (3, .int x3)]) hx hb1 dX2_weigh_54 hl (k := 5) rfl rfl (by decide) rfl (fun ls hl => ?_)
        refine lv_goto (tgt := 6) hx hb1 dX2_weigh_57 (by decide) ?_
        exact ih v17 (x6 + (1 : Int32)) σ15 _ _ ls hq h (lv_sub hl [2, 3, 4, 5, 1, 0] rfl)
  subst hargs
  refine hh_entry (vs := [.ref (ad (7 + b)), .int x1, .int x2, .int x3]) (Nat.le_of_ble_eq_true rfl) (fun ls hl => ?_)
  have hl : lv_has ls 7 [(0, .ref (ad (7 + b))), (1, .int x1), (2, .int x2), (3, .int x3)] := hl
  have hq : wp_X2_weigh b x1 x2 x3 σ Q := hq
  unfold wp_X2_weigh at hq
  refine lv_lconst (v := (0 : Int64)) hx hb1 dX2_weigh_0 (by decide) ?_
  refine lv_lstore (lv' := [(4, .long (0 : Int64)), (0, .ref (ad (7 + b))), (1, .int x1), (2, .int x2), (3, .int x3)]) hx hb1 dX2_weigh_1 hl (by decide) rfl (fun ls hl => ?_)
  refine lv_iconst (v := (0 : Int32)) hx hb1 dX2_weigh_3 (by decide) ?_
  refine lv_istore (lv' := [(6, .int (0 : Int32)), (4, .long (0 : Int64)), (0, .ref (ad (7 + b))), (1, .int x1), (2, .int x2), (3, .int x3)]) hx hb1 dX2_weigh_4 hl (by decide) rfl (fun ls hl => ?_)
  obtain ⟨n18, hq⟩ := hq
  exact lt_6 x1 x2 x3 n18 (0 : Int64) (0 : Int32) σ _ _ ls hq h (lv_sub hl [2, 3, 4, 5, 1, 0] rfl)
theorem nd_X2_weighAnswers : yX2_weighAnswers.cls = RX2 ∧ yX2_weighAnswers.cls ≠ "java/lang/invoke/MethodHandle" ∧ yX2_weighAnswers.cls ≠ "java/lang/invoke/VarHandle" ∧ (parseMethodDescriptor yX2_weighAnswers.desc).map (fun d => d.parameters.length) = some 1 := by decide +kernel
abbrev rm_X2_weighAnswers : Room := { frames := 2, cells := 0, slots := 0, locals := 48 }
def wq_X2_weighAnswers_36 (b : Nat) (x1 : Int32) (x2 : Int32) (Q : hh_S → Prop) (K36 : Int32 → hh_S → Prop) (x3 : Int32) (σ : hh_S) : Prop := (((hh_I σ 320) ≤ x3 → (Q σ)) ∧ (¬ (hh_I σ 320) ≤ x3 → (wp_X0_counts x3 x1 σ (fun (r2 : Int32) (σ3 : hh_S) => ((r2 = 0 → (K36 (x3 + (1 : Int32)) σ3)) ∧ (¬ r2 = 0 → (vp_in x3 10 ∧ (vp_in x1 24 ∧ (wp_X2_weigh b x3 x2 (hh_rA σ3 (45 + (x3).toNatClampNeg) x1) σ3 (fun (σ8 : hh_S) => (K36 (x3 + (1 : Int32)) σ8)))))))))))
def wq_X2_weighAnswers_12 (b : Nat) (x1 : Int32) (x2 : Int32) (Q : hh_S → Prop) (K12 : Int32 → hh_S → Prop) (x3 : Int32) (σ : hh_S) : Prop := ((x2 ≤ x3 → (∃ n : Nat, hh_lp1 (wq_X2_weighAnswers_36 b x1 x2 Q) n (0 : Int32) σ)) ∧ (¬ x2 ≤ x3 → (wp_X2_alike x2 σ (fun (r11 : Int32) (σ12 : hh_S) => (vp_in x3 4 ∧ ∀ σ14 : hh_S, σ14 = hh_sB σ12 (33 + 6 * b) x3 (r11.toInt64) → (K12 (x3 + (1 : Int32)) σ14))))))
def wp_X2_weighAnswers (b : Nat) (x1 : Int32) (σ : hh_S) (Q : hh_S → Prop) : Prop := (vp_in x1 24 ∧ (∀ v16 : Int32, v16 = (hh_rA σ 22 x1) → (∃ n : Nat, hh_lp1 (wq_X2_weighAnswers_12 b x1 v16 Q) n (0 : Int32) σ)))
theorem in_X2_weighAnswers_X2 : ∀ w ∈ u_ws RX2 TX2 9, w ∈ wsX2_weighAnswers := fun w h => List.mem_cons_of_mem _ (List.mem_append_left _ (List.mem_append_left _ (List.mem_append_right _ h)))
theorem in_X2_weighAnswers_X1 : ∀ w ∈ u_ws RX1 TX1 7, w ∈ wsX2_weighAnswers := fun w h => List.mem_cons_of_mem _ (List.mem_append_left _ (List.mem_append_right _ h))
theorem in_X2_weighAnswers_X0 : ∀ w ∈ u_ws RX0 TX0 4, w ∈ wsX2_weighAnswers := fun w h => List.mem_cons_of_mem _ (List.mem_append_right _ h)
set_option maxHeartbeats 4000000 in
set_option maxRecDepth 100000 in
theorem ad_X2_weighAnswers {D : va_G} (l : Launch) {cy : Nat → ClassId} {ad : Nat → Nat} (J : hh_J hc_Y ad) {b : Nat} (hb : b = 0 ∨ b = 1) (x1 : Int32) (σ : hh_S) (Q : hh_S → Prop) (hq : wp_X2_weighAnswers b x1 σ Q) : Met l yX2_weighAnswers wsX2_weighAnswers rm_X2_weighAnswers (va_Pc [.ref (ad (7 + b)), .int x1] (hh_B D hh_cl hc_Y cy ad σ)) (va_Qv Q (hh_B D hh_cl hc_Y cy ad) (hh_A hc_Y ad)) 0 0 (hh_A hc_Y ad) := by
  refine Met.ofW (cc := cX2_weighAnswers) (maxL := 4) (ret := none) (by decide) rfl ?_
  intro p e s m args below meth c s₁ B hml hv
  obtain ⟨hargs, hP0, hK0⟩ := hv
  have hr := B.returns
  have hlocks := B.notSynchronized
  have X : hh_X p m c cX2_weighAnswers 4 s args wsX2_weighAnswers RX2 D hh_cl hc_Y cy ad := ⟨⟨B.exec, B.bytes, hml, findClass_of_methodNamed B.named, atoms_spec (ws := wsX2_weighAnswers) B.pre⟩, hK0, J⟩
  have hx := X.1.1
  have hb1 := X.1.2.1
  have h : hh_H D hh_cl hc_Y cy ad s.heap σ s.heap [] := ⟨hP0, va_S.rf⟩
  have lt_36 : ∀ (x1 : Int32) (x2 : Int32) (n : Nat) (x3 : Int32) (σ : hh_S) (H : Heap) (locs : List Loc) (ls : Array Slot), hh_lp1 (wq_X2_weighAnswers_36 b x1 x2 Q) n x3 σ → hh_H D hh_cl hc_Y cy ad s.heap σ H locs → lv_has ls 4 [(0, .ref (ad (7 + b))), (1, .int x1), (2, .int x2), (3, .int x3)] → W p l e (headSpec wsX2_weighAnswers rm_X2_weighAnswers).room s m args below meth c H locs 0 0 (MQ below (va_Qv Q (hh_B D hh_cl hc_Y cy ad) (hh_A hc_Y ad)) args s 0 0 (hh_A hc_Y ad)) (F0 m 36 ls []) := by
    intro x1 x2 n
    induction n with
    | zero => intro x3 σ H locs ls hq h hl; exact hq.elim
    | succ n ih =>
      intro x3 σ H locs ls hq h hl
      have hq : wq_X2_weighAnswers_36 b x1 x2 Q (hh_lp1 (wq_X2_weighAnswers_36 b x1 x2 Q) n) x3 σ := hq
      unfold wq_X2_weighAnswers_36 at hq
      refine lv_iload_n hx hb1 dX2_weighAnswers_36 rfl (lv_at hl 3 rfl) ?_
      refine lv_aload_n hx hb1 dX2_weighAnswers_37 rfl (lv_at hl 0 rfl) ?_
      refine hh_getr X h (fj_3 hb) in_X2_weighAnswers_X2 (kj hb) (by decide) (List.mem_of_getElem? (i := 4) rfl) rfl dX2_weighAnswers_38 ?_
      refine hh_geti X h (q := 320) fc_5_0 rfl in_X2_weighAnswers_X0 kc_5 (by decide) (List.mem_of_getElem? (i := 5) rfl) rfl dX2_weighAnswers_41 ?_
      refine lv_icmp_ge (tgt := 82) hx hb1 dX2_weighAnswers_44 (by decide) (fun c1 => ?_) (fun c1 => ?_)
      · have hq := hq.1 c1
        exact hh_vret X h hr hlocks hq dX2_weighAnswers_82
      · have hq := hq.2 c1
        refine lv_aload_n hx hb1 dX2_weighAnswers_47 rfl (lv_at hl 0 rfl) ?_
        refine hh_getr X h (fj_3 hb) in_X2_weighAnswers_X2 (kj hb) (by decide) (List.mem_of_getElem? (i := 4) rfl) rfl dX2_weighAnswers_48 ?_
        refine lv_iload_n hx hb1 dX2_weighAnswers_51 rfl (lv_at hl 3 rfl) ?_
        refine lv_iload_n hx hb1 dX2_weighAnswers_52 rfl (lv_at hl 1 rfl) ?_
        refine hh_kI h (va_runV (As := [.int x3, .int x1]) (rest := []) X.1 (ad_X0_counts (D := D) l J x3 x1 σ _ hq) (cwV 2 X.1.2.2.2.2 gX2_weighAnswers_X0_counts rfl rfl rfl nd_X0_counts ⟨Nat.le_of_ble_eq_true rfl, Nat.le_of_ble_eq_true rfl⟩) (hh_preV X h fc_5_0 kc_5 [.int x3, .int x1]) rfl rfl hl.1 rfl (lv_room (Nat.le_of_ble_eq_true rfl)) dX2_weighAnswers_53 ⟨Nat.le_of_ble_eq_true rfl, Nat.le_of_ble_eq_true rfl⟩) (fun r2 σ3 H locs hq h => ?_)
        refine lv_if_eq (tgt := 76) hx hb1 dX2_weighAnswers_56 (by decide) (fun c4 => ?_) (fun c4 => ?_)
        · have hq := hq.1 c4
          refine lv_iinc (v := (x3 + (1 : Int32))) (lv' := [(3, .int (x3 + (1 : Int32))), (0, .ref (ad (7 + b))), (1, .int x1), (2, .int x2)]) hx hb1 dX2_weighAnswers_76 hl (k := 3) rfl rfl (by decide) rfl (fun ls hl => ?_)
          refine lv_goto (tgt := 36) hx hb1 dX2_weighAnswers_79 (by decide) ?_
          exact ih (x3 + (1 : Int32)) σ3 _ _ ls hq h (lv_sub hl [1, 2, 3, 0] rfl)
        · have hq := hq.2 c4
          refine lv_aload_n hx hb1 dX2_weighAnswers_59 rfl (lv_at hl 0 rfl) ?_
          refine lv_iload_n hx hb1 dX2_weighAnswers_60 rfl (lv_at hl 3 rfl) ?_
          refine lv_iload_n hx hb1 dX2_weighAnswers_61 rfl (lv_at hl 2 rfl) ?_
          refine lv_aload_n hx hb1 dX2_weighAnswers_62 rfl (lv_at hl 0 rfl) ?_
          refine hh_getr X h (fj_3 hb) in_X2_weighAnswers_X2 (kj hb) (by decide) (List.mem_of_getElem? (i := 4) rfl) rfl dX2_weighAnswers_63 ?_
          refine hh_getr X h fc_5_3 in_X2_weighAnswers_X0 kc_5 (by decide) (List.mem_of_getElem? (i := 6) rfl) rfl dX2_weighAnswers_66 ?_
          refine lv_iload_n hx hb1 dX2_weighAnswers_69 rfl (lv_at hl 3 rfl) ?_
          obtain ⟨h5, hq⟩ := hq
          refine hh_ald X h ac_28 h5 dX2_weighAnswers_70 ?_
          refine lv_iload_n hx hb1 dX2_weighAnswers_71 rfl (lv_at hl 1 rfl) ?_
          obtain ⟨h6, hq⟩ := hq
          refine hh_ild X h (ar_said h5) h6 dX2_weighAnswers_72 ?_
          refine hh_kV h (va_runV (As := [.int x3, .int x2, .int (hh_rA σ3 (45 + (x3).toNatClampNeg) x1)]) (rest := []) X.1 (ad_X2_weigh (D := D) l J (b := b) hb x3 x2 (hh_rA σ3 (45 + (x3).toNatClampNeg) x1) σ3 _ hq) (cwV 3 X.1.2.2.2.2 gX2_weighAnswers_X2_weigh rfl rfl rfl nd_X2_weigh ⟨Nat.le_of_ble_eq_true rfl, Nat.le_of_ble_eq_true rfl⟩) (hh_preV X h (fj_0 hb) (kj hb) [.int x3, .int x2, .int (hh_rA σ3 (45 + (x3).toNatClampNeg) x1)]) rfl rfl hl.1 rfl (lv_room (Nat.le_of_ble_eq_true rfl)) dX2_weighAnswers_73 ⟨Nat.le_of_ble_eq_true rfl, Nat.le_of_ble_eq_true rfl⟩) (fun σ8 H locs hq h => ?_)
          refine lv_iinc (v := (x3 + (1 : Int32))) (lv' := [(3, .int (x3 + (1 : Int32))), (0, .ref (ad (7 + b))), (1, .int x1), (2, .int x2)]) hx hb1 dX2_weighAnswers_76 hl (k := 3) rfl rfl (by decide) rfl (fun ls hl => ?_)
          refine lv_goto (tgt := 36) hx hb1 dX2_weighAnswers_79 (by decide) ?_
          exact ih (x3 + (1 : Int32)) σ8 _ _ ls hq h (lv_sub hl [1, 2, 3, 0] rfl)
  have lt_12 : ∀ (x1 : Int32) (x2 : Int32) (n : Nat) (x3 : Int32) (σ : hh_S) (H : Heap) (locs : List Loc) (ls : Array Slot), hh_lp1 (wq_X2_weighAnswers_12 b x1 x2 Q) n x3 σ → hh_H D hh_cl hc_Y cy ad s.heap σ H locs → lv_has ls 4 [(0, .ref (ad (7 + b))), (1, .int x1), (2, .int x2), (3, .int x3)] → W p l e (headSpec wsX2_weighAnswers rm_X2_weighAnswers).room s m args below meth c H locs 0 0 (MQ below (va_Qv Q (hh_B D hh_cl hc_Y cy ad) (hh_A hc_Y ad)) args s 0 0 (hh_A hc_Y ad)) (F0 m 12 ls []) := by
    intro x1 x2 n
    induction n with
    | zero => intro x3 σ H locs ls hq h hl; exact hq.elim
    | succ n ih =>
      intro x3 σ H locs ls hq h hl
      have hq : wq_X2_weighAnswers_12 b x1 x2 Q (hh_lp1 (wq_X2_weighAnswers_12 b x1 x2 Q) n) x3 σ := hq
      unfold wq_X2_weighAnswers_12 at hq
      refine lv_iload_n hx hb1 dX2_weighAnswers_12 rfl (lv_at hl 3 rfl) ?_
      refine lv_iload_n hx hb1 dX2_weighAnswers_13 rfl (lv_at hl 2 rfl) ?_
      refine lv_icmp_ge (tgt := 34) hx hb1 dX2_weighAnswers_14 (by decide) (fun c9 => ?_) (fun c9 => ?_)
      · have hq := hq.1 c9
        refine lv_iconst (v := (0 : Int32)) hx hb1 dX2_weighAnswers_34 (by decide) ?_
        refine lv_istore_n (lv' := [(3, .int (0 : Int32)), (0, .ref (ad (7 + b))), (1, .int x1), (2, .int x2)]) hx hb1 dX2_weighAnswers_35 rfl hl (by decide) rfl (fun ls hl => ?_)
        obtain ⟨n10, hq⟩ := hq
        exact lt_36 x1 x2 n10 (0 : Int32) σ _ _ ls hq h (lv_sub hl [1, 2, 3, 0] rfl)
      · have hq := hq.2 c9
        refine lv_aload_n hx hb1 dX2_weighAnswers_17 rfl (lv_at hl 0 rfl) ?_
        refine hh_getr X h (fj_6 hb) in_X2_weighAnswers_X2 (kj hb) (by decide) (List.mem_of_getElem? (i := 3) rfl) rfl dX2_weighAnswers_18 ?_
        refine lv_iload_n hx hb1 dX2_weighAnswers_21 rfl (lv_at hl 3 rfl) ?_
        refine lv_iload_n hx hb1 dX2_weighAnswers_22 rfl (lv_at hl 2 rfl) ?_
        refine hh_kI h (va_runS (As := [.int x2]) (rest := [.int x3, .ref (ad (33 + 6 * b))]) X.1 (ad_X2_alike (D := D) l J x2 σ _ hq) (va_cwS 1 X.1.2.2.2.2 gX2_weighAnswers_X2_alike rfl rfl rfl nd_X2_alike ⟨Nat.le_of_ble_eq_true rfl, Nat.le_of_ble_eq_true rfl⟩) (hh_preS X h [.int x2]) rfl rfl hl.1 rfl (lv_room (Nat.le_of_ble_eq_true rfl)) dX2_weighAnswers_23 ⟨Nat.le_of_ble_eq_true rfl, Nat.le_of_ble_eq_true rfl⟩) (fun r11 σ12 H locs hq h => ?_)
        refine lv_i2l (v := (r11).toInt64) hx hb1 dX2_weighAnswers_26 rfl ?_
        obtain ⟨h13, hq⟩ := hq
        refine hh_lst X h (aj_33 hb) h13 dX2_weighAnswers_27 (fun σ14 H locs eσ14 h => ?_)
        have hq := hq σ14 eσ14
        refine lv_iinc (v := (x3 + (1 : Int32))) (lv' := [(3, .int (x3 + (1 : Int32))), (0, .ref (ad (7 + b))), (1, .int x1), (2, .int x2)]) hx hb1 dX2_weighAnswers_28 hl (k := 3) rfl rfl (by decide) rfl (fun ls hl => ?_)
        refine lv_goto (tgt := 12) hx hb1 dX2_weighAnswers_31 (by decide) ?_
        exact ih (x3 + (1 : Int32)) σ14 _ _ ls hq h (lv_sub hl [1, 2, 3, 0] rfl)
  subst hargs
  refine hh_entry (vs := [.ref (ad (7 + b)), .int x1]) (Nat.le_of_ble_eq_true rfl) (fun ls hl => ?_)
  have hl : lv_has ls 4 [(0, .ref (ad (7 + b))), (1, .int x1)] := hl
  have hq : wp_X2_weighAnswers b x1 σ Q := hq
  unfold wp_X2_weighAnswers at hq
  refine lv_aload_n hx hb1 dX2_weighAnswers_0 rfl (lv_at hl 0 rfl) ?_
  refine hh_getr X h (fj_2 hb) in_X2_weighAnswers_X2 (kj hb) (by decide) (List.mem_of_getElem? (i := 1) rfl) rfl dX2_weighAnswers_1 ?_
  refine hh_getr X h fc_4_3 in_X2_weighAnswers_X1 kc_4 (by decide) (List.mem_of_getElem? (i := 2) rfl) rfl dX2_weighAnswers_4 ?_
  refine lv_iload_n hx hb1 dX2_weighAnswers_7 rfl (lv_at hl 1 rfl) ?_
  obtain ⟨h15, hq⟩ := hq
  refine hh_ild X h ac_22 h15 dX2_weighAnswers_8 ?_
  refine lv_topi (fun v16 ev16 => ?_)
  have hq := hq v16 ev16
  refine lv_istore_n (lv' := [(2, .int v16), (0, .ref (ad (7 + b))), (1, .int x1)]) hx hb1 dX2_weighAnswers_9 rfl hl (by decide) rfl (fun ls hl => ?_)
  refine lv_iconst (v := (0 : Int32)) hx hb1 dX2_weighAnswers_10 (by decide) ?_
  refine lv_istore_n (lv' := [(3, .int (0 : Int32)), (2, .int v16), (0, .ref (ad (7 + b))), (1, .int x1)]) hx hb1 dX2_weighAnswers_11 rfl hl (by decide) rfl (fun ls hl => ?_)
  obtain ⟨n17, hq⟩ := hq
  exact lt_12 x1 v16 n17 (0 : Int32) σ _ _ ls hq h (lv_sub hl [2, 3, 1, 0] rfl)
theorem nd_X2_renewAll : yX2_renewAll.cls = RX2 ∧ yX2_renewAll.cls ≠ "java/lang/invoke/MethodHandle" ∧ yX2_renewAll.cls ≠ "java/lang/invoke/VarHandle" ∧ (parseMethodDescriptor yX2_renewAll.desc).map (fun d => d.parameters.length) = some 0 := by decide +kernel
abbrev rm_X2_renewAll : Room := { frames := 3, cells := 0, slots := 0, locals := 71 }
def wq_X2_renewAll_4 (b : Nat) (Q : Int32 → hh_S → Prop) (K4 : Int32 → Int32 → hh_S → Prop) (x1 : Int32) (x2 : Int32) (σ : hh_S) : Prop := (((hh_I σ 256) ≤ x2 → (Q x1 σ)) ∧ (¬ (hh_I σ 256) ≤ x2 → (wp_X1_isFree x2 σ (fun (r2 : Int32) (σ3 : hh_S) => ((r2 = 0 → (K4 x1 (x2 + (1 : Int32)) σ3)) ∧ (¬ r2 = 0 → (wp_X0_countTo x2 σ3 (fun (r5 : Int32) (σ6 : hh_S) => ((r5 ≤ 0 → (K4 x1 (x2 + (1 : Int32)) σ6)) ∧ (¬ r5 ≤ 0 → (wp_X2_weighAnswers b x2 σ6 (fun (σ9 : hh_S) => (wp_X2_takeFresh b x2 σ9 (fun (r10 : Int32) (σ11 : hh_S) => (∀ v12 : Int32, v12 = (if x1 < r10 then r10 else x1) → (K4 v12 (x2 + (1 : Int32)) σ11))))))))))))))))
def wp_X2_renewAll (b : Nat) (σ : hh_S) (Q : Int32 → hh_S → Prop) : Prop := (∃ n : Nat, hh_lp2 (wq_X2_renewAll_4 b Q) n (0 : Int32) (0 : Int32) σ)
theorem in_X2_renewAll_X2 : ∀ w ∈ u_ws RX2 TX2 9, w ∈ wsX2_renewAll := fun w h => List.mem_cons_of_mem _ (List.mem_append_left _ (List.mem_append_left _ (List.mem_append_right _ h)))
theorem in_X2_renewAll_X1 : ∀ w ∈ u_ws RX1 TX1 7, w ∈ wsX2_renewAll := fun w h => List.mem_cons_of_mem _ (List.mem_append_left _ (List.mem_append_right _ h))
theorem in_X2_renewAll_X0 : ∀ w ∈ u_ws RX0 TX0 4, w ∈ wsX2_renewAll := fun w h => List.mem_cons_of_mem _ (List.mem_append_right _ h)
set_option maxHeartbeats 4000000 in
set_option maxRecDepth 100000 in
theorem ad_X2_renewAll {D : va_G} (l : Launch) {cy : Nat → ClassId} {ad : Nat → Nat} (J : hh_J hc_Y ad) {b : Nat} (hb : b = 0 ∨ b = 1) (σ : hh_S) (Q : Int32 → hh_S → Prop) (hq : wp_X2_renewAll b σ Q) : Met l yX2_renewAll wsX2_renewAll rm_X2_renewAll (va_Pc [.ref (ad (7 + b))] (hh_B D hh_cl hc_Y cy ad σ)) (va_Qi Q (hh_B D hh_cl hc_Y cy ad) (hh_A hc_Y ad)) 0 0 (hh_A hc_Y ad) := by
  refine Met.ofW (cc := cX2_renewAll) (maxL := 3) (ret := (some .int)) (by decide) rfl ?_
  intro p e s m args below meth c s₁ B hml hv
  obtain ⟨hargs, hP0, hK0⟩ := hv
  have hr := B.returns
  have hlocks := B.notSynchronized
  have X : hh_X p m c cX2_renewAll 3 s args wsX2_renewAll RX2 D hh_cl hc_Y cy ad := ⟨⟨B.exec, B.bytes, hml, findClass_of_methodNamed B.named, atoms_spec (ws := wsX2_renewAll) B.pre⟩, hK0, J⟩
  have hx := X.1.1
  have hb1 := X.1.2.1
  have h : hh_H D hh_cl hc_Y cy ad s.heap σ s.heap [] := ⟨hP0, va_S.rf⟩
  have lt_4 : ∀ (n : Nat) (x1 : Int32) (x2 : Int32) (σ : hh_S) (H : Heap) (locs : List Loc) (ls : Array Slot), hh_lp2 (wq_X2_renewAll_4 b Q) n x1 x2 σ → hh_H D hh_cl hc_Y cy ad s.heap σ H locs → lv_has ls 3 [(0, .ref (ad (7 + b))), (1, .int x1), (2, .int x2)] → W p l e (headSpec wsX2_renewAll rm_X2_renewAll).room s m args below meth c H locs 0 0 (MQ below (va_Qi Q (hh_B D hh_cl hc_Y cy ad) (hh_A hc_Y ad)) args s 0 0 (hh_A hc_Y ad)) (F0 m 4 ls []) := by
    intro n
    induction n with
    | zero => intro x1 x2 σ H locs ls hq h hl; exact hq.elim
    | succ n ih =>
      intro x1 x2 σ H locs ls hq h hl
      have hq : wq_X2_renewAll_4 b Q (hh_lp2 (wq_X2_renewAll_4 b Q) n) x1 x2 σ := hq
      unfold wq_X2_renewAll_4 at hq
      refine lv_iload_n hx hb1 dX2_renewAll_4 rfl (lv_at hl 2 rfl) ?_
      refine lv_aload_n hx hb1 dX2_renewAll_5 rfl (lv_at hl 0 rfl) ?_
      refine hh_getr X h (fj_2 hb) in_X2_renewAll_X2 (kj hb) (by decide) (List.mem_of_getElem? (i := 1) rfl) rfl dX2_renewAll_6 ?_
      refine hh_geti X h (q := 256) fc_4_0 rfl in_X2_renewAll_X1 kc_4 (by decide) (List.mem_of_getElem? (i := 2) rfl) rfl dX2_renewAll_9 ?_
      refine lv_icmp_ge (tgt := 58) hx hb1 dX2_renewAll_12 (by decide) (fun c1 => ?_) (fun c1 => ?_)
      · have hq := hq.1 c1
        refine lv_iload_n hx hb1 dX2_renewAll_58 rfl (lv_at hl 1 rfl) ?_
        exact hh_iret X h hr hlocks hq dX2_renewAll_59
      · have hq := hq.2 c1
        refine lv_aload_n hx hb1 dX2_renewAll_15 rfl (lv_at hl 0 rfl) ?_
        refine hh_getr X h (fj_2 hb) in_X2_renewAll_X2 (kj hb) (by decide) (List.mem_of_getElem? (i := 1) rfl) rfl dX2_renewAll_16 ?_
        refine lv_iload_n hx hb1 dX2_renewAll_19 rfl (lv_at hl 2 rfl) ?_
        refine hh_kI h (va_runV (As := [.int x2]) (rest := []) X.1 (ad_X1_isFree (D := D) l J x2 σ _ hq) (cwV 1 X.1.2.2.2.2 gX2_renewAll_X1_isFree rfl rfl rfl nd_X1_isFree ⟨Nat.le_of_ble_eq_true rfl, Nat.le_of_ble_eq_true rfl⟩) (hh_preV X h fc_4_0 kc_4 [.int x2]) rfl rfl hl.1 rfl (lv_room (Nat.le_of_ble_eq_true rfl)) dX2_renewAll_20 ⟨Nat.le_of_ble_eq_true rfl, Nat.le_of_ble_eq_true rfl⟩) (fun r2 σ3 H locs hq h => ?_)
        refine lv_if_eq (tgt := 52) hx hb1 dX2_renewAll_23 (by decide) (fun c4 => ?_) (fun c4 => ?_)
        · have hq := hq.1 c4
          refine lv_iinc (v := (x2 + (1 : Int32))) (lv' := [(2, .int (x2 + (1 : Int32))), (0, .ref (ad (7 + b))), (1, .int x1)]) hx hb1 dX2_renewAll_52 hl (k := 2) rfl rfl (by decide) rfl (fun ls hl => ?_)
          refine lv_goto (tgt := 4) hx hb1 dX2_renewAll_55 (by decide) ?_
          exact ih x1 (x2 + (1 : Int32)) σ3 _ _ ls hq h (lv_sub hl [1, 2, 0] rfl)
        · have hq := hq.2 c4
          refine lv_aload_n hx hb1 dX2_renewAll_26 rfl (lv_at hl 0 rfl) ?_
          refine hh_getr X h (fj_3 hb) in_X2_renewAll_X2 (kj hb) (by decide) (List.mem_of_getElem? (i := 3) rfl) rfl dX2_renewAll_27 ?_
          refine lv_iload_n hx hb1 dX2_renewAll_30 rfl (lv_at hl 2 rfl) ?_
          refine hh_kI h (va_runV (As := [.int x2]) (rest := []) X.1 (ad_X0_countTo (D := D) l J x2 σ3 _ hq) (cwV 1 X.1.2.2.2.2 gX2_renewAll_X0_countTo rfl rfl rfl nd_X0_countTo ⟨Nat.le_of_ble_eq_true rfl, Nat.le_of_ble_eq_true rfl⟩) (hh_preV X h fc_5_0 kc_5 [.int x2]) rfl rfl hl.1 rfl (lv_room (Nat.le_of_ble_eq_true rfl)) dX2_renewAll_31 ⟨Nat.le_of_ble_eq_true rfl, Nat.le_of_ble_eq_true rfl⟩) (fun r5 σ6 H locs hq h => ?_)
          refine lv_if_le (tgt := 52) hx hb1 dX2_renewAll_34 (by decide) (fun c7 => ?_) (fun c7 => ?_)
          · have hq := hq.1 c7
            refine lv_iinc (v := (x2 + (1 : Int32))) (lv' := [(2, .int (x2 + (1 : Int32))), (0, .ref (ad (7 + b))), (1, .int x1)]) hx hb1 dX2_renewAll_52 hl (k := 2) rfl rfl (by decide) rfl (fun ls hl => ?_)
            refine lv_goto (tgt := 4) hx hb1 dX2_renewAll_55 (by decide) ?_
            exact ih x1 (x2 + (1 : Int32)) σ6 _ _ ls hq h (lv_sub hl [1, 2, 0] rfl)
          · have hq := hq.2 c7
            refine lv_aload_n hx hb1 dX2_renewAll_37 rfl (lv_at hl 0 rfl) ?_
            refine lv_iload_n hx hb1 dX2_renewAll_38 rfl (lv_at hl 2 rfl) ?_
            refine hh_kV h (va_runV (As := [.int x2]) (rest := []) X.1 (ad_X2_weighAnswers (D := D) l J (b := b) hb x2 σ6 _ hq) (cwV 1 X.1.2.2.2.2 gX2_renewAll_X2_weighAnswers rfl rfl rfl nd_X2_weighAnswers ⟨Nat.le_of_ble_eq_true rfl, Nat.le_of_ble_eq_true rfl⟩) (hh_preV X h (fj_0 hb) (kj hb) [.int x2]) rfl rfl hl.1 rfl (lv_room (Nat.le_of_ble_eq_true rfl)) dX2_renewAll_39 ⟨Nat.le_of_ble_eq_true rfl, Nat.le_of_ble_eq_true rfl⟩) (fun σ9 H locs hq h => ?_)
            refine lv_iload_n hx hb1 dX2_renewAll_42 rfl (lv_at hl 1 rfl) ?_
            refine lv_aload_n hx hb1 dX2_renewAll_43 rfl (lv_at hl 0 rfl) ?_
            refine lv_iload_n hx hb1 dX2_renewAll_44 rfl (lv_at hl 2 rfl) ?_
            refine hh_kI h (va_runV (As := [.int x2]) (rest := [.int x1]) X.1 (ad_X2_takeFresh (D := D) l J (b := b) hb x2 σ9 _ hq) (cwV 1 X.1.2.2.2.2 gX2_renewAll_X2_takeFresh rfl rfl rfl nd_X2_takeFresh ⟨Nat.le_of_ble_eq_true rfl, Nat.le_of_ble_eq_true rfl⟩) (hh_preV X h (fj_0 hb) (kj hb) [.int x2]) rfl rfl hl.1 rfl (lv_room (Nat.le_of_ble_eq_true rfl)) dX2_renewAll_45 ⟨Nat.le_of_ble_eq_true rfl, Nat.le_of_ble_eq_true rfl⟩) (fun r10 σ11 H locs hq h => ?_)
            refine va_mmax hx hb1 (X.1.2.2.1.trans hl.1.symm) X.1.2.2.2.1 (X.1.2.2.2.2 _ (List.mem_of_getElem? (i := 4) rfl)) (X.1.2.2.2.2 _ (List.mem_of_getElem? (i := 5) rfl)) (X.1.2.2.2.2 _ (List.mem_of_getElem? (i := 6) rfl)) (X.1.2.2.2.2 _ (List.mem_of_getElem? (i := 7) rfl)) (Nat.le_of_ble_eq_true rfl) (Nat.le_of_ble_eq_true rfl) (Nat.zero_le _) (Nat.zero_le _) dX2_renewAll_48 ?_
            refine lv_topi (fun v12 ev12 => ?_)
            have hq := hq v12 ev12
            refine lv_istore_n (lv' := [(1, .int v12), (0, .ref (ad (7 + b))), (2, .int x2)]) hx hb1 dX2_renewAll_51 rfl hl (by decide) rfl (fun ls hl => ?_)
            refine lv_iinc (v := (x2 + (1 : Int32))) (lv' := [(2, .int (x2 + (1 : Int32))), (1, .int v12), (0, .ref (ad (7 + b)))]) hx hb1 dX2_renewAll_52 hl (k := 2) rfl rfl (by decide) rfl (fun ls hl => ?_)
            refine lv_goto (tgt := 4) hx hb1 dX2_renewAll_55 (by decide) ?_
            exact ih v12 (x2 + (1 : Int32)) σ11 _ _ ls hq h (lv_sub hl [2, 1, 0] rfl)
  subst hargs
  refine hh_entry (vs := [.ref (ad (7 + b))]) (Nat.le_of_ble_eq_true rfl) (fun ls hl => ?_)
  have hl : lv_has ls 3 [(0, .ref (ad (7 + b)))] := hl
  have hq : wp_X2_renewAll b σ Q := hq
  unfold wp_X2_renewAll at hq
  refine lv_iconst (v := (0 : Int32)) hx hb1 dX2_renewAll_0 (by decide) ?_
  refine lv_istore_n (lv' := [(1, .int (0 : Int32)), (0, .ref (ad (7 + b)))]) hx hb1 dX2_renewAll_1 rfl hl (by decide) rfl (fun ls hl => ?_)
  refine lv_iconst (v := (0 : Int32)) hx hb1 dX2_renewAll_2 (by decide) ?_
  refine lv_istore_n (lv' := [(2, .int (0 : Int32)), (1, .int (0 : Int32)), (0, .ref (ad (7 + b)))]) hx hb1 dX2_renewAll_3 rfl hl (by decide) rfl (fun ls hl => ?_)
  obtain ⟨n13, hq⟩ := hq
  exact lt_4 n13 (0 : Int32) (0 : Int32) σ _ _ ls hq h (lv_sub hl [2, 1, 0] rfl)
theorem nd_X2_startAlike : yX2_startAlike.cls = RX2 ∧ yX2_startAlike.cls ≠ "java/lang/invoke/MethodHandle" ∧ yX2_startAlike.cls ≠ "java/lang/invoke/VarHandle" ∧ (parseMethodDescriptor yX2_startAlike.desc).map (fun d => d.parameters.length) = some 1 := by decide +kernel
abbrev rm_X2_startAlike : Room := { frames := 1, cells := 0, slots := 0, locals := 20 }
def wq_X2_startAlike_12 (b : Nat) (x1 : Int32) (x2 : Int32) (Q : hh_S → Prop) (K12 : Int32 → hh_S → Prop) (x3 : Int32) (σ : hh_S) : Prop := ((x2 ≤ x3 → (Q σ)) ∧ (¬ x2 ≤ x3 → (vp_in x1 24 ∧ (wp_X2_alike x2 σ (fun (r3 : Int32) (σ4 : hh_S) => (vp_in x3 4 ∧ ∀ σ6 : hh_S, σ6 = hh_sA σ4 ((55 + 34 * b) + (x1).toNatClampNeg) x3 r3 → (K12 (x3 + (1 : Int32)) σ6)))))))
def wp_X2_startAlike (b : Nat) (x1 : Int32) (σ : hh_S) (Q : hh_S → Prop) : Prop := (vp_in x1 24 ∧ (∀ v8 : Int32, v8 = (hh_rA σ 22 x1) → (∃ n : Nat, hh_lp1 (wq_X2_startAlike_12 b x1 v8 Q) n (0 : Int32) σ)))
theorem in_X2_startAlike_X2 : ∀ w ∈ u_ws RX2 TX2 9, w ∈ wsX2_startAlike := fun w h => List.mem_cons_of_mem _ (List.mem_append_left _ (List.mem_append_right _ h))
theorem in_X2_startAlike_X1 : ∀ w ∈ u_ws RX1 TX1 7, w ∈ wsX2_startAlike := fun w h => List.mem_cons_of_mem _ (List.mem_append_right _ h)
set_option maxHeartbeats 4000000 in
set_option maxRecDepth 100000 in
theorem ad_X2_startAlike {D : va_G} (l : Launch) {cy : Nat → ClassId} {ad : Nat → Nat} (J : hh_J hc_Y ad) {b : Nat} (hb : b = 0 ∨ b = 1) (x1 : Int32) (σ : hh_S) (Q : hh_S → Prop) (hq : wp_X2_startAlike b x1 σ Q) : Met l yX2_startAlike wsX2_startAlike rm_X2_startAlike (va_Pc [.ref (ad (7 + b)), .int x1] (hh_B D hh_cl hc_Y cy ad σ)) (va_Qv Q (hh_B D hh_cl hc_Y cy ad) (hh_A hc_Y ad)) 0 0 (hh_A hc_Y ad) := by
  refine Met.ofW (cc := cX2_startAlike) (maxL := 4) (ret := none) (by decide) rfl ?_
  intro p e s m args below meth c s₁ B hml hv
  obtain ⟨hargs, hP0, hK0⟩ := hv
  have hr := B.returns
  have hlocks := B.notSynchronized
  have X : hh_X p m c cX2_startAlike 4 s args wsX2_startAlike RX2 D hh_cl hc_Y cy ad := ⟨⟨B.exec, B.bytes, hml, findClass_of_methodNamed B.named, atoms_spec (ws := wsX2_startAlike) B.pre⟩, hK0, J⟩
  have hx := X.1.1
  have hb1 := X.1.2.1
  have h : hh_H D hh_cl hc_Y cy ad s.heap σ s.heap [] := ⟨hP0, va_S.rf⟩
  have lt_12 : ∀ (x1 : Int32) (x2 : Int32) (n : Nat) (x3 : Int32) (σ : hh_S) (H : Heap) (locs : List Loc) (ls : Array Slot), hh_lp1 (wq_X2_startAlike_12 b x1 x2 Q) n x3 σ → hh_H D hh_cl hc_Y cy ad s.heap σ H locs → lv_has ls 4 [(0, .ref (ad (7 + b))), (1, .int x1), (2, .int x2), (3, .int x3)] → W p l e (headSpec wsX2_startAlike rm_X2_startAlike).room s m args below meth c H locs 0 0 (MQ below (va_Qv Q (hh_B D hh_cl hc_Y cy ad) (hh_A hc_Y ad)) args s 0 0 (hh_A hc_Y ad)) (F0 m 12 ls []) := by
    intro x1 x2 n
    induction n with
    | zero => intro x3 σ H locs ls hq h hl; exact hq.elim
    | succ n ih =>
      intro x3 σ H locs ls hq h hl
      have hq : wq_X2_startAlike_12 b x1 x2 Q (hh_lp1 (wq_X2_startAlike_12 b x1 x2 Q) n) x3 σ := hq
      unfold wq_X2_startAlike_12 at hq
      refine lv_iload_n hx hb1 dX2_startAlike_12 rfl (lv_at hl 3 rfl) ?_
      refine lv_iload_n hx hb1 dX2_startAlike_13 rfl (lv_at hl 2 rfl) ?_
      refine lv_icmp_ge (tgt := 35) hx hb1 dX2_startAlike_14 (by decide) (fun c1 => ?_) (fun c1 => ?_)
      · have hq := hq.1 c1
        exact hh_vret X h hr hlocks hq dX2_startAlike_35
      · have hq := hq.2 c1
        refine lv_aload_n hx hb1 dX2_startAlike_17 rfl (lv_at hl 0 rfl) ?_
        refine hh_getr X h (fj_0 hb) in_X2_startAlike_X2 (kj hb) (by decide) (List.mem_of_getElem? (i := 3) rfl) rfl dX2_startAlike_18 ?_
        refine lv_iload_n hx hb1 dX2_startAlike_21 rfl (lv_at hl 1 rfl) ?_
        obtain ⟨h2, hq⟩ := hq
        refine hh_ald X h (aj_30 hb) h2 dX2_startAlike_22 ?_
        refine lv_iload_n hx hb1 dX2_startAlike_23 rfl (lv_at hl 3 rfl) ?_
        refine lv_iload_n hx hb1 dX2_startAlike_24 rfl (lv_at hl 2 rfl) ?_
        refine hh_kI h (va_runS (As := [.int x2]) (rest := [.int x3, .ref (ad ((55 + 34 * b) + (x1).toNatClampNeg))]) X.1 (ad_X2_alike (D := D) l J x2 σ _ hq) (va_cwS 1 X.1.2.2.2.2 gX2_startAlike_X2_alike rfl rfl rfl nd_X2_alike ⟨Nat.le_of_ble_eq_true rfl, Nat.le_of_ble_eq_true rfl⟩) (hh_preS X h [.int x2]) rfl rfl hl.1 rfl (lv_room (Nat.le_of_ble_eq_true rfl)) dX2_startAlike_25 ⟨Nat.le_of_ble_eq_true rfl, Nat.le_of_ble_eq_true rfl⟩) (fun r3 σ4 H locs hq h => ?_)
        obtain ⟨h5, hq⟩ := hq
        refine hh_ist X h (ar_sh hb h2) h5 dX2_startAlike_28 (fun σ6 H locs eσ6 h => ?_)
        have hq := hq σ6 eσ6
        refine lv_iinc (v := (x3 + (1 : Int32))) (lv' := [(3, .int (x3 + (1 : Int32))), (0, .ref (ad (7 + b))), (1, .int x1), (2, .int x2)]) hx hb1 dX2_startAlike_29 hl (k := 3) rfl rfl (by decide) rfl (fun ls hl => ?_)
        refine lv_goto (tgt := 12) hx hb1 dX2_startAlike_32 (by decide) ?_
        exact ih (x3 + (1 : Int32)) σ6 _ _ ls hq h (lv_sub hl [1, 2, 3, 0] rfl)
  subst hargs
  refine hh_entry (vs := [.ref (ad (7 + b)), .int x1]) (Nat.le_of_ble_eq_true rfl) (fun ls hl => ?_)
  have hl : lv_has ls 4 [(0, .ref (ad (7 + b))), (1, .int x1)] := hl
  have hq : wp_X2_startAlike b x1 σ Q := hq
  unfold wp_X2_startAlike at hq
  refine lv_aload_n hx hb1 dX2_startAlike_0 rfl (lv_at hl 0 rfl) ?_
  refine hh_getr X h (fj_2 hb) in_X2_startAlike_X2 (kj hb) (by decide) (List.mem_of_getElem? (i := 1) rfl) rfl dX2_startAlike_1 ?_
  refine hh_getr X h fc_4_3 in_X2_startAlike_X1 kc_4 (by decide) (List.mem_of_getElem? (i := 2) rfl) rfl dX2_startAlike_4 ?_
  refine lv_iload_n hx hb1 dX2_startAlike_7 rfl (lv_at hl 1 rfl) ?_
  obtain ⟨h7, hq⟩ := hq
  refine hh_ild X h ac_22 h7 dX2_startAlike_8 ?_
  refine lv_topi (fun v8 ev8 => ?_)
  have hq := hq v8 ev8
  refine lv_istore_n (lv' := [(2, .int v8), (0, .ref (ad (7 + b))), (1, .int x1)]) hx hb1 dX2_startAlike_9 rfl hl (by decide) rfl (fun ls hl => ?_)
  refine lv_iconst (v := (0 : Int32)) hx hb1 dX2_startAlike_10 (by decide) ?_
  refine lv_istore_n (lv' := [(3, .int (0 : Int32)), (2, .int v8), (0, .ref (ad (7 + b))), (1, .int x1)]) hx hb1 dX2_startAlike_11 rfl hl (by decide) rfl (fun ls hl => ?_)
  obtain ⟨n9, hq⟩ := hq
  exact lt_12 x1 v8 n9 (0 : Int32) σ _ _ ls hq h (lv_sub hl [2, 3, 1, 0] rfl)
theorem nd_X2_startByAnswers : yX2_startByAnswers.cls = RX2 ∧ yX2_startByAnswers.cls ≠ "java/lang/invoke/MethodHandle" ∧ yX2_startByAnswers.cls ≠ "java/lang/invoke/VarHandle" ∧ (parseMethodDescriptor yX2_startByAnswers.desc).map (fun d => d.parameters.length) = some 1 := by decide +kernel
abbrev rm_X2_startByAnswers : Room := { frames := 2, cells := 0, slots := 0, locals := 46 }
def wq_X2_startByAnswers_21 (b : Nat) (x1 : Int32) (x2 : Int32) (Q : hh_S → Prop) (K21 : Int32 → hh_S → Prop) (x3 : Int32) (σ : hh_S) : Prop := (vp_in x1 24 ∧ (((hh_rA σ 22 x1) ≤ x3 → (Q σ)) ∧ (¬ (hh_rA σ 22 x1) ≤ x3 → (vp_in x1 24 ∧ (wp_X0_countWith x1 x3 σ (fun (r4 : Int32) (σ5 : hh_S) => ((¬ x2 = 0) ∧ (vp_in x3 4 ∧ ∀ σ8 : hh_S, σ8 = hh_sA σ5 ((55 + 34 * b) + (x1).toNatClampNeg) x3 (((1000000 : Int32) * r4) / x2) → (K21 (x3 + (1 : Int32)) σ8)))))))))
def wp_X2_startByAnswers (b : Nat) (x1 : Int32) (σ : hh_S) (Q : hh_S → Prop) : Prop := (wp_X0_countTo x1 σ (fun (r9 : Int32) (σ10 : hh_S) => ((0 < r9 → (∃ n : Nat, hh_lp1 (wq_X2_startByAnswers_21 b x1 r9 Q) n (0 : Int32) σ10)) ∧ (¬ 0 < r9 → (wp_X2_startAlike b x1 σ10 (fun (σ14 : hh_S) => (Q σ14)))))))
theorem in_X2_startByAnswers_X2 : ∀ w ∈ u_ws RX2 TX2 9, w ∈ wsX2_startByAnswers := fun w h => List.mem_cons_of_mem _ (List.mem_append_left _ (List.mem_append_left _ (List.mem_append_right _ h)))
theorem in_X2_startByAnswers_X1 : ∀ w ∈ u_ws RX1 TX1 7, w ∈ wsX2_startByAnswers := fun w h => List.mem_cons_of_mem _ (List.mem_append_left _ (List.mem_append_right _ h))
theorem in_X2_startByAnswers_X0 : ∀ w ∈ u_ws RX0 TX0 4, w ∈ wsX2_startByAnswers := fun w h => List.mem_cons_of_mem _ (List.mem_append_right _ h)
set_option maxHeartbeats 4000000 in
set_option maxRecDepth 100000 in
theorem ad_X2_startByAnswers {D : va_G} (l : Launch) {cy : Nat → ClassId} {ad : Nat → Nat} (J : hh_J hc_Y ad) {b : Nat} (hb : b = 0 ∨ b = 1) (x1 : Int32) (σ : hh_S) (Q : hh_S → Prop) (hq : wp_X2_startByAnswers b x1 σ Q) : Met l yX2_startByAnswers wsX2_startByAnswers rm_X2_startByAnswers (va_Pc [.ref (ad (7 + b)), .int x1] (hh_B D hh_cl hc_Y cy ad σ)) (va_Qv Q (hh_B D hh_cl hc_Y cy ad) (hh_A hc_Y ad)) 0 0 (hh_A hc_Y ad) := by
  refine Met.ofW (cc := cX2_startByAnswers) (maxL := 4) (ret := none) (by decide) rfl ?_
  intro p e s m args below meth c s₁ B hml hv
  obtain ⟨hargs, hP0, hK0⟩ := hv
  have hr := B.returns
  have hlocks := B.notSynchronized
  have X : hh_X p m c cX2_startByAnswers 4 s args wsX2_startByAnswers RX2 D hh_cl hc_Y cy ad := ⟨⟨B.exec, B.bytes, hml, findClass_of_methodNamed B.named, atoms_spec (ws := wsX2_startByAnswers) B.pre⟩, hK0, J⟩
  have hx := X.1.1
  have hb1 := X.1.2.1
  have h : hh_H D hh_cl hc_Y cy ad s.heap σ s.heap [] := ⟨hP0, va_S.rf⟩
  have lt_21 : ∀ (x1 : Int32) (x2 : Int32) (n : Nat) (x3 : Int32) (σ : hh_S) (H : Heap) (locs : List Loc) (ls : Array Slot), hh_lp1 (wq_X2_startByAnswers_21 b x1 x2 Q) n x3 σ → hh_H D hh_cl hc_Y cy ad s.heap σ H locs → lv_has ls 4 [(0, .ref (ad (7 + b))), (1, .int x1), (2, .int x2), (3, .int x3)] → W p l e (headSpec wsX2_startByAnswers rm_X2_startByAnswers).room s m args below meth c H locs 0 0 (MQ below (va_Qv Q (hh_B D hh_cl hc_Y cy ad) (hh_A hc_Y ad)) args s 0 0 (hh_A hc_Y ad)) (F0 m 21 ls []) := by
    intro x1 x2 n
    induction n with
    | zero => intro x3 σ H locs ls hq h hl; exact hq.elim
    | succ n ih =>
      intro x3 σ H locs ls hq h hl
      have hq : wq_X2_startByAnswers_21 b x1 x2 Q (hh_lp1 (wq_X2_startByAnswers_21 b x1 x2 Q) n) x3 σ := hq
      unfold wq_X2_startByAnswers_21 at hq
      refine lv_iload_n hx hb1 dX2_startByAnswers_21 rfl (lv_at hl 3 rfl) ?_
      refine lv_aload_n hx hb1 dX2_startByAnswers_22 rfl (lv_at hl 0 rfl) ?_
      refine hh_getr X h (fj_2 hb) in_X2_startByAnswers_X2 (kj hb) (by decide) (List.mem_of_getElem? (i := 2) rfl) rfl dX2_startByAnswers_23 ?_
      refine hh_getr X h fc_4_3 in_X2_startByAnswers_X1 kc_4 (by decide) (List.mem_of_getElem? (i := 3) rfl) rfl dX2_startByAnswers_26 ?_
      refine lv_iload_n hx hb1 dX2_startByAnswers_29 rfl (lv_at hl 1 rfl) ?_
      obtain ⟨h1, hq⟩ := hq
      refine hh_ild X h ac_22 h1 dX2_startByAnswers_30 ?_
      refine lv_icmp_ge (tgt := 62) hx hb1 dX2_startByAnswers_31 (by decide) (fun c2 => ?_) (fun c2 => ?_)
      · have hq := hq.1 c2
        exact hh_vret X h hr hlocks hq dX2_startByAnswers_62
      · have hq := hq.2 c2
        refine lv_aload_n hx hb1 dX2_startByAnswers_34 rfl (lv_at hl 0 rfl) ?_
        refine hh_getr X h (fj_0 hb) in_X2_startByAnswers_X2 (kj hb) (by decide) (List.mem_of_getElem? (i := 4) rfl) rfl dX2_startByAnswers_35 ?_
        refine lv_iload_n hx hb1 dX2_startByAnswers_38 rfl (lv_at hl 1 rfl) ?_
        obtain ⟨h3, hq⟩ := hq
        refine hh_ald X h (aj_30 hb) h3 dX2_startByAnswers_39 ?_
        refine lv_iload_n hx hb1 dX2_startByAnswers_40 rfl (lv_at hl 3 rfl) ?_
        refine lv_ldc (v := (1000000 : Int32)) hx hb1 X.1.2.2.2.1 (X.1.2.2.2.2 _ (List.mem_of_getElem? (i := 5) rfl)) dX2_startByAnswers_41 ?_
        refine lv_aload_n hx hb1 dX2_startByAnswers_43 rfl (lv_at hl 0 rfl) ?_
        refine hh_getr X h (fj_3 hb) in_X2_startByAnswers_X2 (kj hb) (by decide) (List.mem_of_getElem? (i := 1) rfl) rfl dX2_startByAnswers_44 ?_
        refine lv_iload_n hx hb1 dX2_startByAnswers_47 rfl (lv_at hl 1 rfl) ?_
        refine lv_iload_n hx hb1 dX2_startByAnswers_48 rfl (lv_at hl 3 rfl) ?_
        refine hh_kI h (va_runV (As := [.int x1, .int x3]) (rest := [.int (1000000 : Int32), .int x3, .ref (ad ((55 + 34 * b) + (x1).toNatClampNeg))]) X.1 (ad_X0_countWith (D := D) l J x1 x3 σ _ hq) (cwV 2 X.1.2.2.2.2 gX2_startByAnswers_X0_countWith rfl rfl rfl nd_X0_countWith ⟨Nat.le_of_ble_eq_true rfl, Nat.le_of_ble_eq_true rfl⟩) (hh_preV X h fc_5_0 kc_5 [.int x1, .int x3]) rfl rfl hl.1 rfl (lv_room (Nat.le_of_ble_eq_true rfl)) dX2_startByAnswers_49 ⟨Nat.le_of_ble_eq_true rfl, Nat.le_of_ble_eq_true rfl⟩) (fun r4 σ5 H locs hq h => ?_)
        refine lv_imul hx hb1 dX2_startByAnswers_52 ?_
        refine lv_iload_n hx hb1 dX2_startByAnswers_53 rfl (lv_at hl 2 rfl) ?_
        obtain ⟨h6, hq⟩ := hq
        refine lv_idiv hx hb1 dX2_startByAnswers_54 h6 ?_
        obtain ⟨h7, hq⟩ := hq
        refine hh_ist X h (ar_sh hb h3) h7 dX2_startByAnswers_55 (fun σ8 H locs eσ8 h => ?_)
        have hq := hq σ8 eσ8
        refine lv_iinc (v := (x3 + (1 : Int32))) (lv' := [(3, .int (x3 + (1 : Int32))), (0, .ref (ad (7 + b))), (1, .int x1), (2, .int x2)]) hx hb1 dX2_startByAnswers_56 hl (k := 3) rfl rfl (by decide) rfl (fun ls hl => ?_)
        refine lv_goto (tgt := 21) hx hb1 dX2_startByAnswers_59 (by decide) ?_
        exact ih (x3 + (1 : Int32)) σ8 _ _ ls hq h (lv_sub hl [1, 2, 3, 0] rfl)
  subst hargs
  refine hh_entry (vs := [.ref (ad (7 + b)), .int x1]) (Nat.le_of_ble_eq_true rfl) (fun ls hl => ?_)
  have hl : lv_has ls 4 [(0, .ref (ad (7 + b))), (1, .int x1)] := hl
  have hq : wp_X2_startByAnswers b x1 σ Q := hq
  unfold wp_X2_startByAnswers at hq
  refine lv_aload_n hx hb1 dX2_startByAnswers_0 rfl (lv_at hl 0 rfl) ?_
  refine hh_getr X h (fj_3 hb) in_X2_startByAnswers_X2 (kj hb) (by decide) (List.mem_of_getElem? (i := 1) rfl) rfl dX2_startByAnswers_1 ?_
  refine lv_iload_n hx hb1 dX2_startByAnswers_4 rfl (lv_at hl 1 rfl) ?_
  refine hh_kI h (va_runV (As := [.int x1]) (rest := []) X.1 (ad_X0_countTo (D := D) l J x1 σ _ hq) (cwV 1 X.1.2.2.2.2 gX2_startByAnswers_X0_countTo rfl rfl rfl nd_X0_countTo ⟨Nat.le_of_ble_eq_true rfl, Nat.le_of_ble_eq_true rfl⟩) (hh_preV X h fc_5_0 kc_5 [.int x1]) rfl rfl hl.1 rfl (lv_room (Nat.le_of_ble_eq_true rfl)) dX2_startByAnswers_5 ⟨Nat.le_of_ble_eq_true rfl, Nat.le_of_ble_eq_true rfl⟩) (fun r9 σ10 H locs hq h => ?_)
  refine lv_istore_n (lv' := [(2, .int r9), (0, .ref (ad (7 + b))), (1, .int x1)]) hx hb1 dX2_startByAnswers_8 rfl hl (by decide) rfl (fun ls hl => ?_)
  refine lv_iload_n hx hb1 dX2_startByAnswers_9 rfl (lv_at hl 0 rfl) ?_
  refine lv_if_gt (tgt := 19) hx hb1 dX2_startByAnswers_10 (by decide) (fun c11 => ?_) (fun c11 => ?_)
  · have hq := hq.1 c11
    refine lv_iconst (v := (0 : Int32)) hx hb1 dX2_startByAnswers_19 (by decide) ?_
    refine lv_istore_n (lv' := [(3, .int (0 : Int32)), (2, .int r9), (0, .ref (ad (7 + b))), (1, .int x1)]) hx hb1 dX2_startByAnswers_20 rfl hl (by decide) rfl (fun ls hl => ?_)
    obtain ⟨n12, hq⟩ := hq
    exact lt_21 x1 r9 n12 (0 : Int32) σ10 _ _ ls hq h (lv_sub hl [2, 3, 1, 0] rfl)
  · have hq := hq.2 c11
    refine lv_aload_n hx hb1 dX2_startByAnswers_13 rfl (lv_at hl 1 rfl) ?_
    refine lv_iload_n hx hb1 dX2_startByAnswers_14 rfl (lv_at hl 2 rfl) ?_
    refine hh_kV h (va_runV (As := [.int x1]) (rest := []) X.1 (ad_X2_startAlike (D := D) l J (b := b) hb x1 σ10 _ hq) (cwV 1 X.1.2.2.2.2 gX2_startByAnswers_X2_startAlike rfl rfl rfl nd_X2_startAlike ⟨Nat.le_of_ble_eq_true rfl, Nat.le_of_ble_eq_true rfl⟩) (hh_preV X h (fj_0 hb) (kj hb) [.int x1]) rfl rfl hl.1 rfl (lv_room (Nat.le_of_ble_eq_true rfl)) dX2_startByAnswers_15 ⟨Nat.le_of_ble_eq_true rfl, Nat.le_of_ble_eq_true rfl⟩) (fun σ14 H locs hq h => ?_)
    exact hh_vret X h hr hlocks hq dX2_startByAnswers_18
theorem nd_X2_startGiven : yX2_startGiven.cls = RX2 ∧ yX2_startGiven.cls ≠ "java/lang/invoke/MethodHandle" ∧ yX2_startGiven.cls ≠ "java/lang/invoke/VarHandle" ∧ (parseMethodDescriptor yX2_startGiven.desc).map (fun d => d.parameters.length) = some 1 := by decide +kernel
abbrev rm_X2_startGiven : Room := { frames := 1, cells := 0, slots := 0, locals := 21 }
def wq_X2_startGiven_11 (b : Nat) (x1 : Int32) (x2 : Int32) (Q : hh_S → Prop) (K11 : Int32 → hh_S → Prop) (x3 : Int32) (σ : hh_S) : Prop := (vp_in x1 24 ∧ (((hh_rA σ 22 x1) ≤ x3 → (Q σ)) ∧ (¬ (hh_rA σ 22 x1) ≤ x3 → (vp_in x1 24 ∧ ((¬ x3 = x2 → (vp_in x3 4 ∧ ∀ σ6 : hh_S, σ6 = hh_sA σ ((55 + 34 * b) + (x1).toNatClampNeg) x3 (0 : Int32) → (K11 (x3 + (1 : Int32)) σ6))) ∧ (x3 = x2 → (vp_in x3 4 ∧ ∀ σ8 : hh_S, σ8 = hh_sA σ ((55 + 34 * b) + (x1).toNatClampNeg) x3 (1000000 : Int32) → (K11 (x3 + (1 : Int32)) σ8))))))))
def wp_X2_startGiven (b : Nat) (x1 : Int32) (σ : hh_S) (Q : hh_S → Prop) : Prop := (wp_X1_given x1 σ (fun (r9 : Int32) (σ10 : hh_S) => (∃ n : Nat, hh_lp1 (wq_X2_startGiven_11 b x1 r9 Q) n (0 : Int32) σ10)))
theorem in_X2_startGiven_X2 : ∀ w ∈ u_ws RX2 TX2 9, w ∈ wsX2_startGiven := fun w h => List.mem_cons_of_mem _ (List.mem_append_left _ (List.mem_append_right _ h))
theorem in_X2_startGiven_X1 : ∀ w ∈ u_ws RX1 TX1 7, w ∈ wsX2_startGiven := fun w h => List.mem_cons_of_mem _ (List.mem_append_right _ h)
set_option maxHeartbeats 4000000 in
set_option maxRecDepth 100000 in
theorem ad_X2_startGiven {D : va_G} (l : Launch) {cy : Nat → ClassId} {ad : Nat → Nat} (J : hh_J hc_Y ad) {b : Nat} (hb : b = 0 ∨ b = 1) (x1 : Int32) (σ : hh_S) (Q : hh_S → Prop) (hq : wp_X2_startGiven b x1 σ Q) : Met l yX2_startGiven wsX2_startGiven rm_X2_startGiven (va_Pc [.ref (ad (7 + b)), .int x1] (hh_B D hh_cl hc_Y cy ad σ)) (va_Qv Q (hh_B D hh_cl hc_Y cy ad) (hh_A hc_Y ad)) 0 0 (hh_A hc_Y ad) := by
  refine Met.ofW (cc := cX2_startGiven) (maxL := 4) (ret := none) (by decide) rfl ?_
  intro p e s m args below meth c s₁ B hml hv
  obtain ⟨hargs, hP0, hK0⟩ := hv
  have hr := B.returns
  have hlocks := B.notSynchronized
  have X : hh_X p m c cX2_startGiven 4 s args wsX2_startGiven RX2 D hh_cl hc_Y cy ad := ⟨⟨B.exec, B.bytes, hml, findClass_of_methodNamed B.named, atoms_spec (ws := wsX2_startGiven) B.pre⟩, hK0, J⟩
  have hx := X.1.1
  have hb1 := X.1.2.1
  have h : hh_H D hh_cl hc_Y cy ad s.heap σ s.heap [] := ⟨hP0, va_S.rf⟩
  have lt_11 : ∀ (x1 : Int32) (x2 : Int32) (n : Nat) (x3 : Int32) (σ : hh_S) (H : Heap) (locs : List Loc) (ls : Array Slot), hh_lp1 (wq_X2_startGiven_11 b x1 x2 Q) n x3 σ → hh_H D hh_cl hc_Y cy ad s.heap σ H locs → lv_has ls 4 [(0, .ref (ad (7 + b))), (1, .int x1), (2, .int x2), (3, .int x3)] → W p l e (headSpec wsX2_startGiven rm_X2_startGiven).room s m args below meth c H locs 0 0 (MQ below (va_Qv Q (hh_B D hh_cl hc_Y cy ad) (hh_A hc_Y ad)) args s 0 0 (hh_A hc_Y ad)) (F0 m 11 ls []) := by
    intro x1 x2 n
    induction n with
    | zero => intro x3 σ H locs ls hq h hl; exact hq.elim
    | succ n ih =>
      intro x3 σ H locs ls hq h hl
      have hq : wq_X2_startGiven_11 b x1 x2 Q (hh_lp1 (wq_X2_startGiven_11 b x1 x2 Q) n) x3 σ := hq
      unfold wq_X2_startGiven_11 at hq
      refine lv_iload_n hx hb1 dX2_startGiven_11 rfl (lv_at hl 3 rfl) ?_
      refine lv_aload_n hx hb1 dX2_startGiven_12 rfl (lv_at hl 0 rfl) ?_
      refine hh_getr X h (fj_2 hb) in_X2_startGiven_X2 (kj hb) (by decide) (List.mem_of_getElem? (i := 1) rfl) rfl dX2_startGiven_13 ?_
      refine hh_getr X h fc_4_3 in_X2_startGiven_X1 kc_4 (by decide) (List.mem_of_getElem? (i := 2) rfl) rfl dX2_startGiven_16 ?_
      refine lv_iload_n hx hb1 dX2_startGiven_19 rfl (lv_at hl 1 rfl) ?_
      obtain ⟨h1, hq⟩ := hq
      refine hh_ild X h ac_22 h1 dX2_startGiven_20 ?_
      refine lv_icmp_ge (tgt := 49) hx hb1 dX2_startGiven_21 (by decide) (fun c2 => ?_) (fun c2 => ?_)
      · have hq := hq.1 c2
        exact hh_vret X h hr hlocks hq dX2_startGiven_49
      · have hq := hq.2 c2
        refine lv_aload_n hx hb1 dX2_startGiven_24 rfl (lv_at hl 0 rfl) ?_
        refine hh_getr X h (fj_0 hb) in_X2_startGiven_X2 (kj hb) (by decide) (List.mem_of_getElem? (i := 3) rfl) rfl dX2_startGiven_25 ?_
        refine lv_iload_n hx hb1 dX2_startGiven_28 rfl (lv_at hl 1 rfl) ?_
        obtain ⟨h3, hq⟩ := hq
        refine hh_ald X h (aj_30 hb) h3 dX2_startGiven_29 ?_
        refine lv_iload_n hx hb1 dX2_startGiven_30 rfl (lv_at hl 3 rfl) ?_
        refine lv_iload_n hx hb1 dX2_startGiven_31 rfl (lv_at hl 3 rfl) ?_
        refine lv_iload_n hx hb1 dX2_startGiven_32 rfl (lv_at hl 2 rfl) ?_
        refine lv_icmp_ne (tgt := 41) hx hb1 dX2_startGiven_33 (by decide) (fun c4 => ?_) (fun c4 => ?_)
        · have hq := hq.1 c4
          refine lv_iconst (v := (0 : Int32)) hx hb1 dX2_startGiven_41 (by decide) ?_
          obtain ⟨h5, hq⟩ := hq
          refine hh_ist X h (ar_sh hb h3) h5 dX2_startGiven_42 (fun σ6 H locs eσ6 h => ?_)
          have hq := hq σ6 eσ6
          refine lv_iinc (v := (x3 + (1 : Int32))) (lv' := [(3, .int (x3 + (1 : Int32))), (0, .ref (ad (7 + b))), (1, .int x1), (2, .int x2)]) hx hb1 dX2_startGiven_43 hl (k := 3) rfl rfl (by decide) rfl (fun ls hl => ?_)
          refine lv_goto (tgt := 11) hx hb1 dX2_startGiven_46 (by decide) ?_
          exact ih (x3 + (1 : Int32)) σ6 _ _ ls hq h (lv_sub hl [1, 2, 3, 0] rfl)
        · have hq := hq.2 c4
          refine lv_ldc (v := (1000000 : Int32)) hx hb1 X.1.2.2.2.1 (X.1.2.2.2.2 _ (List.mem_of_getElem? (i := 4) rfl)) dX2_startGiven_36 ?_
          refine lv_goto (tgt := 42) hx hb1 dX2_startGiven_38 (by decide) ?_
          obtain ⟨h7, hq⟩ := hq
          refine hh_ist X h (ar_sh hb h3) h7 dX2_startGiven_42 (fun σ8 H locs eσ8 h => ?_)
          have hq := hq σ8 eσ8
          refine lv_iinc (v := (x3 + (1 : Int32))) (lv' := [(3, .int (x3 + (1 : Int32))), (0, .ref (ad (7 + b))), (1, .int x1), (2, .int x2)]) hx hb1 dX2_startGiven_43 hl (k := 3) rfl rfl (by decide) rfl (fun ls hl => ?_)
          refine lv_goto (tgt := 11) hx hb1 dX2_startGiven_46 (by decide) ?_
          exact ih (x3 + (1 : Int32)) σ8 _ _ ls hq h (lv_sub hl [1, 2, 3, 0] rfl)
  subst hargs
  refine hh_entry (vs := [.ref (ad (7 + b)), .int x1]) (Nat.le_of_ble_eq_true rfl) (fun ls hl => ?_)
  have hl : lv_has ls 4 [(0, .ref (ad (7 + b))), (1, .int x1)] := hl
  have hq : wp_X2_startGiven b x1 σ Q := hq
  unfold wp_X2_startGiven at hq
  refine lv_aload_n hx hb1 dX2_startGiven_0 rfl (lv_at hl 0 rfl) ?_
  refine hh_getr X h (fj_2 hb) in_X2_startGiven_X2 (kj hb) (by decide) (List.mem_of_getElem? (i := 1) rfl) rfl dX2_startGiven_1 ?_
  refine lv_iload_n hx hb1 dX2_startGiven_4 rfl (lv_at hl 1 rfl) ?_
  refine hh_kI h (va_runV (As := [.int x1]) (rest := []) X.1 (ad_X1_given (D := D) l J x1 σ _ hq) (cwV 1 X.1.2.2.2.2 gX2_startGiven_X1_given rfl rfl rfl nd_X1_given ⟨Nat.le_of_ble_eq_true rfl, Nat.le_of_ble_eq_true rfl⟩) (hh_preV X h fc_4_0 kc_4 [.int x1]) rfl rfl hl.1 rfl (lv_room (Nat.le_of_ble_eq_true rfl)) dX2_startGiven_5 ⟨Nat.le_of_ble_eq_true rfl, Nat.le_of_ble_eq_true rfl⟩) (fun r9 σ10 H locs hq h => ?_)
  refine lv_istore_n (lv' := [(2, .int r9), (0, .ref (ad (7 + b))), (1, .int x1)]) hx hb1 dX2_startGiven_8 rfl hl (by decide) rfl (fun ls hl => ?_)
  refine lv_iconst (v := (0 : Int32)) hx hb1 dX2_startGiven_9 (by decide) ?_
  refine lv_istore_n (lv' := [(3, .int (0 : Int32)), (2, .int r9), (0, .ref (ad (7 + b))), (1, .int x1)]) hx hb1 dX2_startGiven_10 rfl hl (by decide) rfl (fun ls hl => ?_)
  obtain ⟨n11, hq⟩ := hq
  exact lt_11 x1 r9 n11 (0 : Int32) σ10 _ _ ls hq h (lv_sub hl [2, 3, 1, 0] rfl)
theorem nd_X2_startShares : yX2_startShares.cls = RX2 ∧ yX2_startShares.cls ≠ "java/lang/invoke/MethodHandle" ∧ yX2_startShares.cls ≠ "java/lang/invoke/VarHandle" ∧ (parseMethodDescriptor yX2_startShares.desc).map (fun d => d.parameters.length) = some 1 := by decide +kernel
abbrev rm_X2_startShares : Room := { frames := 3, cells := 0, slots := 0, locals := 69 }
def wp_X2_startShares (b : Nat) (x1 : Int32) (σ : hh_S) (Q : hh_S → Prop) : Prop := (wp_X1_isFree x1 σ (fun (r1 : Int32) (σ2 : hh_S) => ((r1 = 0 → (wp_X2_startGiven b x1 σ2 (fun (σ5 : hh_S) => (Q σ5)))) ∧ (¬ r1 = 0 → (wp_X2_startByAnswers b x1 σ2 (fun (σ7 : hh_S) => (Q σ7)))))))
theorem in_X2_startShares_X2 : ∀ w ∈ u_ws RX2 TX2 9, w ∈ wsX2_startShares := fun w h => List.mem_cons_of_mem _ (List.mem_append_left _ (List.mem_append_left _ (List.mem_append_right _ h)))
theorem in_X2_startShares_X1 : ∀ w ∈ u_ws RX1 TX1 7, w ∈ wsX2_startShares := fun w h => List.mem_cons_of_mem _ (List.mem_append_left _ (List.mem_append_right _ h))
theorem in_X2_startShares_X0 : ∀ w ∈ u_ws RX0 TX0 4, w ∈ wsX2_startShares := fun w h => List.mem_cons_of_mem _ (List.mem_append_right _ h)
set_option maxHeartbeats 4000000 in
set_option maxRecDepth 100000 in
theorem ad_X2_startShares {D : va_G} (l : Launch) {cy : Nat → ClassId} {ad : Nat → Nat} (J : hh_J hc_Y ad) {b : Nat} (hb : b = 0 ∨ b = 1) (x1 : Int32) (σ : hh_S) (Q : hh_S → Prop) (hq : wp_X2_startShares b x1 σ Q) : Met l yX2_startShares wsX2_startShares rm_X2_startShares (va_Pc [.ref (ad (7 + b)), .int x1] (hh_B D hh_cl hc_Y cy ad σ)) (va_Qv Q (hh_B D hh_cl hc_Y cy ad) (hh_A hc_Y ad)) 0 0 (hh_A hc_Y ad) := by
  refine Met.ofW (cc := cX2_startShares) (maxL := 2) (ret := none) (by decide) rfl ?_
  intro p e s m args below meth c s₁ B hml hv
  obtain ⟨hargs, hP0, hK0⟩ := hv
  have hr := B.returns
  have hlocks := B.notSynchronized
  have X : hh_X p m c cX2_startShares 2 s args wsX2_startShares RX2 D hh_cl hc_Y cy ad := ⟨⟨B.exec, B.bytes, hml, findClass_of_methodNamed B.named, atoms_spec (ws := wsX2_startShares) B.pre⟩, hK0, J⟩
  have hx := X.1.1
  have hb1 := X.1.2.1
  have h : hh_H D hh_cl hc_Y cy ad s.heap σ s.heap [] := ⟨hP0, va_S.rf⟩
  subst hargs
  refine hh_entry (vs := [.ref (ad (7 + b)), .int x1]) (Nat.le_of_ble_eq_true rfl) (fun ls hl => ?_)
  have hl : lv_has ls 2 [(0, .ref (ad (7 + b))), (1, .int x1)] := hl
  have hq : wp_X2_startShares b x1 σ Q := hq
  unfold wp_X2_startShares at hq
  refine lv_aload_n hx hb1 dX2_startShares_0 rfl (lv_at hl 0 rfl) ?_
  refine hh_getr X h (fj_2 hb) in_X2_startShares_X2 (kj hb) (by decide) (List.mem_of_getElem? (i := 1) rfl) rfl dX2_startShares_1 ?_
  refine lv_iload_n hx hb1 dX2_startShares_4 rfl (lv_at hl 1 rfl) ?_
  refine hh_kI h (va_runV (As := [.int x1]) (rest := []) X.1 (ad_X1_isFree (D := D) l J x1 σ _ hq) (cwV 1 X.1.2.2.2.2 gX2_startShares_X1_isFree rfl rfl rfl nd_X1_isFree ⟨Nat.le_of_ble_eq_true rfl, Nat.le_of_ble_eq_true rfl⟩) (hh_preV X h fc_4_0 kc_4 [.int x1]) rfl rfl hl.1 rfl (lv_room (Nat.le_of_ble_eq_true rfl)) dX2_startShares_5 ⟨Nat.le_of_ble_eq_true rfl, Nat.le_of_ble_eq_true rfl⟩) (fun r1 σ2 H locs hq h => ?_)
  refine lv_if_eq (tgt := 19) hx hb1 dX2_startShares_8 (by decide) (fun c3 => ?_) (fun c3 => ?_)
  · have hq := hq.1 c3
    refine lv_aload_n hx hb1 dX2_startShares_19 rfl (lv_at hl 0 rfl) ?_
    refine lv_iload_n hx hb1 dX2_startShares_20 rfl (lv_at hl 1 rfl) ?_
    refine hh_kV h (va_runV (As := [.int x1]) (rest := []) X.1 (ad_X2_startGiven (D := D) l J (b := b) hb x1 σ2 _ hq) (cwV 1 X.1.2.2.2.2 gX2_startShares_X2_startGiven rfl rfl rfl nd_X2_startGiven ⟨Nat.le_of_ble_eq_true rfl, Nat.le_of_ble_eq_true rfl⟩) (hh_preV X h (fj_0 hb) (kj hb) [.int x1]) rfl rfl hl.1 rfl (lv_room (Nat.le_of_ble_eq_true rfl)) dX2_startShares_21 ⟨Nat.le_of_ble_eq_true rfl, Nat.le_of_ble_eq_true rfl⟩) (fun σ5 H locs hq h => ?_)
    exact hh_vret X h hr hlocks hq dX2_startShares_24
  · have hq := hq.2 c3
    refine lv_aload_n hx hb1 dX2_startShares_11 rfl (lv_at hl 0 rfl) ?_
    refine lv_iload_n hx hb1 dX2_startShares_12 rfl (lv_at hl 1 rfl) ?_
    refine hh_kV h (va_runV (As := [.int x1]) (rest := []) X.1 (ad_X2_startByAnswers (D := D) l J (b := b) hb x1 σ2 _ hq) (cwV 1 X.1.2.2.2.2 gX2_startShares_X2_startByAnswers rfl rfl rfl nd_X2_startByAnswers ⟨Nat.le_of_ble_eq_true rfl, Nat.le_of_ble_eq_true rfl⟩) (hh_preV X h (fj_0 hb) (kj hb) [.int x1]) rfl rfl hl.1 rfl (lv_room (Nat.le_of_ble_eq_true rfl)) dX2_startShares_13 ⟨Nat.le_of_ble_eq_true rfl, Nat.le_of_ble_eq_true rfl⟩) (fun σ7 H locs hq h => ?_)
    refine lv_goto (tgt := 24) hx hb1 dX2_startShares_16 (by decide) ?_
    exact hh_vret X h hr hlocks hq dX2_startShares_24
theorem nd_X2_sumSaid : yX2_sumSaid.cls = RX2 ∧ yX2_sumSaid.cls ≠ "java/lang/invoke/MethodHandle" ∧ yX2_sumSaid.cls ≠ "java/lang/invoke/VarHandle" ∧ (parseMethodDescriptor yX2_sumSaid.desc).map (fun d => d.parameters.length) = some 1 := by decide +kernel
abbrev rm_X2_sumSaid : Room := { frames := 1, cells := 0, slots := 0, locals := 22 }
def wq_X2_sumSaid_85 (b : Nat) (K36 : Int32 → hh_S → Prop) (x1 : Int32) (x2 : Int32) (x3 : Int32) (x4 : Int32) (Q : hh_S → Prop) (K85 : Int32 → hh_S → Prop) (x5 : Int32) (σ : hh_S) : Prop := ((x3 ≤ x5 → (K36 (x2 + (1 : Int32)) σ)) ∧ (¬ x3 ≤ x5 → (wp_X2_spot x3 x5 x4 σ (fun (r2 : Int32) (σ3 : hh_S) => (vp_in r2 48 ∧ (vp_in x2 24 ∧ (vp_in x5 4 ∧ (vp_in r2 48 ∧ ∀ σ8 : hh_S, σ8 = hh_sB σ3 (32 + 6 * b) r2 ((hh_rB σ3 (32 + 6 * b) r2) + ((hh_rA σ3 ((55 + 34 * b) + (x2).toNatClampNeg) x5).toInt64)) → (K85 (x5 + (1 : Int32)) σ8)))))))))
def wq_X2_sumSaid_36 (b : Nat) (x1 : Int32) (Q : hh_S → Prop) (K36 : Int32 → hh_S → Prop) (x2 : Int32) (σ : hh_S) : Prop := (((hh_I σ 256) ≤ x2 → (Q σ)) ∧ (¬ (hh_I σ 256) ≤ x2 → (wp_X0_counts x1 x2 σ (fun (r10 : Int32) (σ11 : hh_S) => ((r10 = 0 → (K36 (x2 + (1 : Int32)) σ11)) ∧ (¬ r10 = 0 → (vp_in x2 24 ∧ (∀ v14 : Int32, v14 = (hh_rA σ11 22 x2) → (vp_in x1 10 ∧ (vp_in x2 24 ∧ (∀ v17 : Int32, v17 = (hh_rA σ11 (45 + (x1).toNatClampNeg) x2) → (∃ n : Nat, hh_lp1 (wq_X2_sumSaid_85 b K36 x1 x2 v14 v17 Q) n (0 : Int32) σ11))))))))))))
def wq_X2_sumSaid_2 (b : Nat) (x1 : Int32) (Q : hh_S → Prop) (K2 : Int32 → hh_S → Prop) (x2 : Int32) (σ : hh_S) : Prop := (((48 : Int32) ≤ x2 → (∃ n : Nat, hh_lp1 (wq_X2_sumSaid_36 b x1 Q) n (0 : Int32) σ)) ∧ (¬ (48 : Int32) ≤ x2 → (vp_in x2 48 ∧ ∀ σ22 : hh_S, σ22 = hh_sB σ (32 + 6 * b) x2 (((hh_rA σ 29 (0 : Int32)).toInt64) * (10000 : Int64)) → (K2 (x2 + (1 : Int32)) σ22))))
def wp_X2_sumSaid (b : Nat) (x1 : Int32) (σ : hh_S) (Q : hh_S → Prop) : Prop := (∃ n : Nat, hh_lp1 (wq_X2_sumSaid_2 b x1 Q) n (0 : Int32) σ)
theorem in_X2_sumSaid_X2 : ∀ w ∈ u_ws RX2 TX2 9, w ∈ wsX2_sumSaid := fun w h => List.mem_cons_of_mem _ (List.mem_append_left _ (List.mem_append_left _ (List.mem_append_left _ (List.mem_append_right _ h))))
theorem in_X2_sumSaid_X5 : ∀ w ∈ u_ws RX5 TX5 1, w ∈ wsX2_sumSaid := fun w h => List.mem_cons_of_mem _ (List.mem_append_left _ (List.mem_append_left _ (List.mem_append_right _ h)))
theorem in_X2_sumSaid_X1 : ∀ w ∈ u_ws RX1 TX1 7, w ∈ wsX2_sumSaid := fun w h => List.mem_cons_of_mem _ (List.mem_append_left _ (List.mem_append_right _ h))
theorem in_X2_sumSaid_X0 : ∀ w ∈ u_ws RX0 TX0 4, w ∈ wsX2_sumSaid := fun w h => List.mem_cons_of_mem _ (List.mem_append_right _ h)
set_option maxHeartbeats 4000000 in
set_option maxRecDepth 100000 in
theorem ad_X2_sumSaid {D : va_G} (l : Launch) {cy : Nat → ClassId} {ad : Nat → Nat} (J : hh_J hc_Y ad) {b : Nat} (hb : b = 0 ∨ b = 1) (x1 : Int32) (σ : hh_S) (Q : hh_S → Prop) (hq : wp_X2_sumSaid b x1 σ Q) : Met l yX2_sumSaid wsX2_sumSaid rm_X2_sumSaid (va_Pc [.ref (ad (7 + b)), .int x1] (hh_B D hh_cl hc_Y cy ad σ)) (va_Qv Q (hh_B D hh_cl hc_Y cy ad) (hh_A hc_Y ad)) 0 0 (hh_A hc_Y ad) := by
  refine Met.ofW (cc := cX2_sumSaid) (maxL := 6) (ret := none) (by decide) rfl ?_
  intro p e s m args below meth c s₁ B hml hv
  obtain ⟨hargs, hP0, hK0⟩ := hv
  have hr := B.returns
  have hlocks := B.notSynchronized
  have X : hh_X p m c cX2_sumSaid 6 s args wsX2_sumSaid RX2 D hh_cl hc_Y cy ad := ⟨⟨B.exec, B.bytes, hml, findClass_of_methodNamed B.named, atoms_spec (ws := wsX2_sumSaid) B.pre⟩, hK0, J⟩
  have hx := X.1.1
  have hb1 := X.1.2.1
  have h : hh_H D hh_cl hc_Y cy ad s.heap σ s.heap [] := ⟨hP0, va_S.rf⟩
  have lt_85 : ∀ (x1 : Int32) (x2 : Int32) (x3 : Int32) (x4 : Int32) (K36 : Int32 → hh_S → Prop) (hK36 : ∀ (x2 : Int32) (σ : hh_S) (H : Heap) (locs : List Loc) (ls : Array Slot), K36 x2 σ → hh_H D hh_cl hc_Y cy ad s.heap σ H locs → lv_has ls 6 [(0, .ref (ad (7 + b))), (1, .int x1), (2, .int x2)] → W p l e (headSpec wsX2_sumSaid rm_X2_sumSaid).room s m args below meth c H locs 0 0 (MQ below (va_Qv Q (hh_B D hh_cl hc_Y cy ad) (hh_A hc_Y ad)) args s 0 0 (hh_A hc_Y ad)) (F0 m 36 ls [])) (n : Nat) (x5 : Int32) (σ : hh_S) (H : Heap) (locs : List Loc) (ls : Array Slot), hh_lp1 (wq_X2_sumSaid_85 b K36 x1 x2 x3 x4 Q) n x5 σ → hh_H D hh_cl hc_Y cy ad s.heap σ H locs → lv_has ls 6 [(0, .ref (ad (7 + b))), (1, .int x1), (2, .int x2), (3, .int x3), (4, .int x4), (5, .int x5)] → W p l e (headSpec wsX2_sumSaid rm_X2_sumSaid).room s m args below meth c H locs 0 0 (MQ below (va_Qv Q (hh_B D hh_cl hc_Y cy ad) (hh_A hc_Y ad)) args s 0 0 (hh_A hc_Y ad)) (F0 m 85 ls []) := by
    intro x1 x2 x3 x4 K36 hK36 n
    induction n with
    | zero => intro x5 σ H locs ls hq h hl; exact hq.elim
    | succ n ih =>
      intro x5 σ H locs ls hq h hl
      have hq : wq_X2_sumSaid_85 b K36 x1 x2 x3 x4 Q (hh_lp1 (wq_X2_sumSaid_85 b K36 x1 x2 x3 x4 Q) n) x5 σ := hq
      unfold wq_X2_sumSaid_85 at hq
      refine lv_iload hx hb1 dX2_sumSaid_85 (lv_at hl 5 rfl) ?_
      refine lv_iload_n hx hb1 dX2_sumSaid_87 rfl (lv_at hl 3 rfl) ?_
      refine lv_icmp_ge (tgt := 123) hx hb1 dX2_sumSaid_88 (by decide) (fun c1 => ?_) (fun c1 => ?_)
      · have hq := hq.1 c1
        refine lv_iinc (v := (x2 + (1 : Int32))) (lv' := [(2, .int (x2 + (1 : Int32))), (0, .ref (ad (7 + b))), (1, .int x1), (3, .int x3), (4, .int x4), (5, .int x5)]) hx hb1 dX2_sumSaid_123 hl (k := 2) rfl rfl (by decide) rfl (fun ls hl => ?_)
        refine lv_goto (tgt := 36) hx hb1 dX2_sumSaid_126 (by decide) ?_
        exact hK36 (x2 + (1 : Int32)) σ _ _ ls hq h (lv_sub hl [1, 2, 0] rfl)
      · have hq := hq.2 c1
        refine lv_aload_n hx hb1 dX2_sumSaid_91 rfl (lv_at hl 0 rfl) ?_
        refine hh_getr X h (fj_5 hb) in_X2_sumSaid_X2 (kj hb) (by decide) (List.mem_of_getElem? (i := 1) rfl) rfl dX2_sumSaid_92 ?_
        refine lv_iload_n hx hb1 dX2_sumSaid_95 rfl (lv_at hl 3 rfl) ?_
        refine lv_iload hx hb1 dX2_sumSaid_96 (lv_at hl 5 rfl) ?_
        refine lv_iload hx hb1 dX2_sumSaid_98 (lv_at hl 4 rfl) ?_
        refine hh_kI h (va_runS (As := [.int x3, .int x5, .int x4]) (rest := [.ref (ad (32 + 6 * b))]) X.1 (ad_X2_spot (D := D) l J x3 x5 x4 σ _ hq) (va_cwS 3 X.1.2.2.2.2 gX2_sumSaid_X2_spot rfl rfl rfl nd_X2_spot ⟨Nat.le_of_ble_eq_true rfl, Nat.le_of_ble_eq_true rfl⟩) (hh_preS X h [.int x3, .int x5, .int x4]) rfl rfl hl.1 rfl (lv_room (Nat.le_of_ble_eq_true rfl)) dX2_sumSaid_100 ⟨Nat.le_of_ble_eq_true rfl, Nat.le_of_ble_eq_true rfl⟩) (fun r2 σ3 H locs hq h => ?_)
        refine lv_dup2_11 hx hb1 dX2_sumSaid_103 rfl rfl ?_
        obtain ⟨h4, hq⟩ := hq
        refine hh_lld X h (aj_32 hb) h4 dX2_sumSaid_104 ?_
        refine lv_aload_n hx hb1 dX2_sumSaid_105 rfl (lv_at hl 0 rfl) ?_
        refine hh_getr X h (fj_0 hb) in_X2_sumSaid_X2 (kj hb) (by decide) (List.mem_of_getElem? (i := 10) rfl) rfl dX2_sumSaid_106 ?_
        refine lv_iload_n hx hb1 dX2_sumSaid_109 rfl (lv_at hl 2 rfl) ?_
        obtain ⟨h5, hq⟩ := hq
        refine hh_ald X h (aj_30 hb) h5 dX2_sumSaid_110 ?_
        refine lv_iload hx hb1 dX2_sumSaid_111 (lv_at hl 5 rfl) ?_
        obtain ⟨h6, hq⟩ := hq
        refine hh_ild X h (ar_sh hb h5) h6 dX2_sumSaid_113 ?_
        refine lv_i2l (v := ((hh_rA σ3 ((55 + 34 * b) + (x2).toNatClampNeg) x5)).toInt64) hx hb1 dX2_sumSaid_114 rfl ?_
        refine lv_ladd hx hb1 dX2_sumSaid_115 ?_
        obtain ⟨h7, hq⟩ := hq
        refine hh_lst X h (aj_32 hb) h7 dX2_sumSaid_116 (fun σ8 H locs eσ8 h => ?_)
        have hq := hq σ8 eσ8
        refine lv_iinc (v := (x5 + (1 : Int32))) (lv' := [(5, .int (x5 + (1 : Int32))), (0, .ref (ad (7 + b))), (1, .int x1), (2, .int x2), (3, .int x3), (4, .int x4)]) hx hb1 dX2_sumSaid_117 hl (k := 5) rfl rfl (by decide) rfl (fun ls hl => ?_)
        refine lv_goto (tgt := 85) hx hb1 dX2_sumSaid_120 (by decide) ?_
        exact ih (x5 + (1 : Int32)) σ8 _ _ ls hq h (lv_sub hl [1, 2, 3, 4, 5, 0] rfl)
  have lt_36 : ∀ (x1 : Int32) (n : Nat) (x2 : Int32) (σ : hh_S) (H : Heap) (locs : List Loc) (ls : Array Slot), hh_lp1 (wq_X2_sumSaid_36 b x1 Q) n x2 σ → hh_H D hh_cl hc_Y cy ad s.heap σ H locs → lv_has ls 6 [(0, .ref (ad (7 + b))), (1, .int x1), (2, .int x2)] → W p l e (headSpec wsX2_sumSaid rm_X2_sumSaid).room s m args below meth c H locs 0 0 (MQ below (va_Qv Q (hh_B D hh_cl hc_Y cy ad) (hh_A hc_Y ad)) args s 0 0 (hh_A hc_Y ad)) (F0 m 36 ls []) := by
    intro x1 n
    induction n with
    | zero => intro x2 σ H locs ls hq h hl; exact hq.elim
    | succ n ih =>
      intro x2 σ H locs ls hq h hl
      have hq : wq_X2_sumSaid_36 b x1 Q (hh_lp1 (wq_X2_sumSaid_36 b x1 Q) n) x2 σ := hq
      unfold wq_X2_sumSaid_36 at hq
      refine lv_iload_n hx hb1 dX2_sumSaid_36 rfl (lv_at hl 2 rfl) ?_
      refine lv_aload_n hx hb1 dX2_sumSaid_37 rfl (lv_at hl 0 rfl) ?_
      refine hh_getr X h (fj_2 hb) in_X2_sumSaid_X2 (kj hb) (by decide) (List.mem_of_getElem? (i := 5) rfl) rfl dX2_sumSaid_38 ?_
      refine hh_geti X h (q := 256) fc_4_0 rfl in_X2_sumSaid_X1 kc_4 (by decide) (List.mem_of_getElem? (i := 6) rfl) rfl dX2_sumSaid_41 ?_
      refine lv_icmp_ge (tgt := 129) hx hb1 dX2_sumSaid_44 (by decide) (fun c9 => ?_) (fun c9 => ?_)
      · have hq := hq.1 c9
        exact hh_vret X h hr hlocks hq dX2_sumSaid_129
      · have hq := hq.2 c9
        refine lv_aload_n hx hb1 dX2_sumSaid_47 rfl (lv_at hl 0 rfl) ?_
        refine hh_getr X h (fj_3 hb) in_X2_sumSaid_X2 (kj hb) (by decide) (List.mem_of_getElem? (i := 7) rfl) rfl dX2_sumSaid_48 ?_
        refine lv_iload_n hx hb1 dX2_sumSaid_51 rfl (lv_at hl 1 rfl) ?_
        refine lv_iload_n hx hb1 dX2_sumSaid_52 rfl (lv_at hl 2 rfl) ?_
        refine hh_kI h (va_runV (As := [.int x1, .int x2]) (rest := []) X.1 (ad_X0_counts (D := D) l J x1 x2 σ _ hq) (cwV 2 X.1.2.2.2.2 gX2_sumSaid_X0_counts rfl rfl rfl nd_X0_counts ⟨Nat.le_of_ble_eq_true rfl, Nat.le_of_ble_eq_true rfl⟩) (hh_preV X h fc_5_0 kc_5 [.int x1, .int x2]) rfl rfl hl.1 rfl (lv_room (Nat.le_of_ble_eq_true rfl)) dX2_sumSaid_53 ⟨Nat.le_of_ble_eq_true rfl, Nat.le_of_ble_eq_true rfl⟩) (fun r10 σ11 H locs hq h => ?_)
        refine lv_if_eq (tgt := 123) hx hb1 dX2_sumSaid_56 (by decide) (fun c12 => ?_) (fun c12 => ?_)
        · have hq := hq.1 c12
          refine lv_iinc (v := (x2 + (1 : Int32))) (lv' := [(2, .int (x2 + (1 : Int32))), (0, .ref (ad (7 + b))), (1, .int x1)]) hx hb1 dX2_sumSaid_123 hl (k := 2) rfl rfl (by decide) rfl (fun ls hl => ?_)
          refine lv_goto (tgt := 36) hx hb1 dX2_sumSaid_126 (by decide) ?_
          exact ih (x2 + (1 : Int32)) σ11 _ _ ls hq h (lv_sub hl [1, 2, 0] rfl)
        · have hq := hq.2 c12
          refine lv_aload_n hx hb1 dX2_sumSaid_59 rfl (lv_at hl 0 rfl) ?_
          refine hh_getr X h (fj_2 hb) in_X2_sumSaid_X2 (kj hb) (by decide) (List.mem_of_getElem? (i := 5) rfl) rfl dX2_sumSaid_60 ?_
          refine hh_getr X h fc_4_3 in_X2_sumSaid_X1 kc_4 (by decide) (List.mem_of_getElem? (i := 8) rfl) rfl dX2_sumSaid_63 ?_
          refine lv_iload_n hx hb1 dX2_sumSaid_66 rfl (lv_at hl 2 rfl) ?_
          obtain ⟨h13, hq⟩ := hq
          refine hh_ild X h ac_22 h13 dX2_sumSaid_67 ?_
          refine lv_topi (fun v14 ev14 => ?_)
          have hq := hq v14 ev14
          refine lv_istore_n (lv' := [(3, .int v14), (0, .ref (ad (7 + b))), (1, .int x1), (2, .int x2)]) hx hb1 dX2_sumSaid_68 rfl hl (by decide) rfl (fun ls hl => ?_)
          refine lv_aload_n hx hb1 dX2_sumSaid_69 rfl (lv_at hl 1 rfl) ?_
          refine hh_getr X h (fj_3 hb) in_X2_sumSaid_X2 (kj hb) (by decide) (List.mem_of_getElem? (i := 7) rfl) rfl dX2_sumSaid_70 ?_
          refine hh_getr X h fc_5_3 in_X2_sumSaid_X0 kc_5 (by decide) (List.mem_of_getElem? (i := 9) rfl) rfl dX2_sumSaid_73 ?_
          refine lv_iload_n hx hb1 dX2_sumSaid_76 rfl (lv_at hl 2 rfl) ?_
          obtain ⟨h15, hq⟩ := hq
          refine hh_ald X h ac_28 h15 dX2_sumSaid_77 ?_
          refine lv_iload_n hx hb1 dX2_sumSaid_78 rfl (lv_at hl 3 rfl) ?_
          obtain ⟨h16, hq⟩ := hq
          refine hh_ild X h (ar_said h15) h16 dX2_sumSaid_79 ?_
          refine lv_topi (fun v17 ev17 => ?_)
          have hq := hq v17 ev17
          refine lv_istore (lv' := [(4, .int v17), (3, .int v14), (0, .ref (ad (7 + b))), (1, .int x1), (2, .int x2)]) hx hb1 dX2_sumSaid_80 hl (by decide) rfl (fun ls hl => ?_)
          refine lv_iconst (v := (0 : Int32)) hx hb1 dX2_sumSaid_82 (by decide) ?_
          refine lv_istore (lv' := [(5, .int (0 : Int32)), (4, .int v17), (3, .int v14), (0, .ref (ad (7 + b))), (1, .int x1), (2, .int x2)]) hx hb1 dX2_sumSaid_83 hl (by decide) rfl (fun ls hl => ?_)
          obtain ⟨n18, hq⟩ := hq
          exact lt_85 x1 x2 v14 v17 (hh_lp1 (wq_X2_sumSaid_36 b x1 Q) n) ih n18 (0 : Int32) σ11 _ _ ls hq h (lv_sub hl [3, 4, 5, 2, 1, 0] rfl)
  have lt_2 : ∀ (x1 : Int32) (n : Nat) (x2 : Int32) (σ : hh_S) (H : Heap) (locs : List Loc) (ls : Array Slot), hh_lp1 (wq_X2_sumSaid_2 b x1 Q) n x2 σ → hh_H D hh_cl hc_Y cy ad s.heap σ H locs → lv_has ls 6 [(0, .ref (ad (7 + b))), (1, .int x1), (2, .int x2)] → W p l e (headSpec wsX2_sumSaid rm_X2_sumSaid).room s m args below meth c H locs 0 0 (MQ below (va_Qv Q (hh_B D hh_cl hc_Y cy ad) (hh_A hc_Y ad)) args s 0 0 (hh_A hc_Y ad)) (F0 m 2 ls []) := by
    intro x1 n
    induction n with
    | zero => intro x2 σ H locs ls hq h hl; exact hq.elim
    | succ n ih =>
      intro x2 σ H locs ls hq h hl
      have hq : wq_X2_sumSaid_2 b x1 Q (hh_lp1 (wq_X2_sumSaid_2 b x1 Q) n) x2 σ := hq
      unfold wq_X2_sumSaid_2 at hq
      refine lv_iload_n hx hb1 dX2_sumSaid_2 rfl (lv_at hl 2 rfl) ?_
      refine lv_bipush (v := (48 : Int32)) hx hb1 dX2_sumSaid_3 (by decide) ?_
      refine lv_icmp_ge (tgt := 34) hx hb1 dX2_sumSaid_5 (by decide) (fun c19 => ?_) (fun c19 => ?_)
      · have hq := hq.1 c19
        refine lv_iconst (v := (0 : Int32)) hx hb1 dX2_sumSaid_34 (by decide) ?_
        refine lv_istore_n (lv' := [(2, .int (0 : Int32)), (0, .ref (ad (7 + b))), (1, .int x1)]) hx hb1 dX2_sumSaid_35 rfl hl (by decide) rfl (fun ls hl => ?_)
        obtain ⟨n20, hq⟩ := hq
        exact lt_36 x1 n20 (0 : Int32) σ _ _ ls hq h (lv_sub hl [1, 2, 0] rfl)
      · have hq := hq.2 c19
        refine lv_aload_n hx hb1 dX2_sumSaid_8 rfl (lv_at hl 0 rfl) ?_
        refine hh_getr X h (fj_5 hb) in_X2_sumSaid_X2 (kj hb) (by decide) (List.mem_of_getElem? (i := 1) rfl) rfl dX2_sumSaid_9 ?_
        refine lv_iload_n hx hb1 dX2_sumSaid_12 rfl (lv_at hl 2 rfl) ?_
        refine lv_aload_n hx hb1 dX2_sumSaid_13 rfl (lv_at hl 0 rfl) ?_
        refine hh_getr X h (fj_4 hb) in_X2_sumSaid_X2 (kj hb) (by decide) (List.mem_of_getElem? (i := 2) rfl) rfl dX2_sumSaid_14 ?_
        refine hh_getr X h fc_6_0 in_X2_sumSaid_X5 kc_6 (by decide) (List.mem_of_getElem? (i := 3) rfl) rfl dX2_sumSaid_17 ?_
        refine lv_iconst (v := (0 : Int32)) hx hb1 dX2_sumSaid_20 (by decide) ?_
        refine hh_ild X h ac_29 (vp_in_iff.mpr (by decide)) dX2_sumSaid_21 ?_
        refine lv_i2l (v := ((hh_rA σ 29 (0 : Int32))).toInt64) hx hb1 dX2_sumSaid_22 rfl ?_
        refine lv_ldc2 (v := (10000 : Int64)) hx hb1 X.1.2.2.2.1 (X.1.2.2.2.2 _ (List.mem_of_getElem? (i := 4) rfl)) dX2_sumSaid_23 ?_
        refine lv_lmul hx hb1 dX2_sumSaid_26 ?_
        obtain ⟨h21, hq⟩ := hq
        refine hh_lst X h (aj_32 hb) h21 dX2_sumSaid_27 (fun σ22 H locs eσ22 h => ?_)
        have hq := hq σ22 eσ22
        refine lv_iinc (v := (x2 + (1 : Int32))) (lv' := [(2, .int (x2 + (1 : Int32))), (0, .ref (ad (7 + b))), (1, .int x1)]) hx hb1 dX2_sumSaid_28 hl (k := 2) rfl rfl (by decide) rfl (fun ls hl => ?_)
        refine lv_goto (tgt := 2) hx hb1 dX2_sumSaid_31 (by decide) ?_
        exact ih (x2 + (1 : Int32)) σ22 _ _ ls hq h (lv_sub hl [1, 2, 0] rfl)
  subst hargs
  refine hh_entry (vs := [.ref (ad (7 + b)), .int x1]) (Nat.le_of_ble_eq_true rfl) (fun ls hl => ?_)
  have hl : lv_has ls 6 [(0, .ref (ad (7 + b))), (1, .int x1)] := hl
  have hq : wp_X2_sumSaid b x1 σ Q := hq
  unfold wp_X2_sumSaid at hq
  refine lv_iconst (v := (0 : Int32)) hx hb1 dX2_sumSaid_0 (by decide) ?_
  refine lv_istore_n (lv' := [(2, .int (0 : Int32)), (0, .ref (ad (7 + b))), (1, .int x1)]) hx hb1 dX2_sumSaid_1 rfl hl (by decide) rfl (fun ls hl => ?_)
  obtain ⟨n23, hq⟩ := hq
  exact lt_2 x1 n23 (0 : Int32) σ _ _ ls hq h (lv_sub hl [1, 2, 0] rfl)
theorem nd_X2_run : yX2_run.cls = RX2 ∧ yX2_run.cls ≠ "java/lang/invoke/MethodHandle" ∧ yX2_run.cls ≠ "java/lang/invoke/VarHandle" ∧ (parseMethodDescriptor yX2_run.desc).map (fun d => d.parameters.length) = some 0 := by decide +kernel
abbrev rm_X2_run : Room := { frames := 4, cells := 0, slots := 0, locals := 93 }
def wq_X2_run_43 (b : Nat) (K36 : Int32 → hh_S → Prop) (x1 : Int32) (x2 : Int32) (Q : Int32 → hh_S → Prop) (K43 : Int32 → hh_S → Prop) (x3 : Int32) (σ : hh_S) : Prop := (((hh_I σ 320) ≤ x3 → (wp_X2_renewAll b σ (fun (r2 : Int32) (σ3 : hh_S) => (((hh_rA σ3 29 (1 : Int32)) < r2 → (K36 (x2 + (1 : Int32)) σ3)) ∧ (¬ (hh_rA σ3 29 (1 : Int32)) < r2 → (Q x2 σ3)))))) ∧ (¬ (hh_I σ 320) ≤ x3 → (wp_X2_sumSaid b x3 σ (fun (σ6 : hh_S) => (wp_X2_fillTables b x3 σ6 (fun (σ8 : hh_S) => (K43 (x3 + (1 : Int32)) σ8)))))))
def wq_X2_run_36 (b : Nat) (x1 : Int32) (Q : Int32 → hh_S → Prop) (K36 : Int32 → hh_S → Prop) (x2 : Int32) (σ : hh_S) : Prop := ((x1 < x2 → (Q (x1 - (100 : Int32)) σ)) ∧ (¬ x1 < x2 → (∃ n : Nat, hh_lp1 (wq_X2_run_43 b K36 x1 x2 Q) n (0 : Int32) σ)))
def wq_X2_run_12 (b : Nat) (x1 : Int32) (Q : Int32 → hh_S → Prop) (K12 : Int32 → hh_S → Prop) (x2 : Int32) (σ : hh_S) : Prop := (((hh_I σ 256) ≤ x2 → (∃ n : Nat, hh_lp1 (wq_X2_run_36 b x1 Q) n (1 : Int32) σ)) ∧ (¬ (hh_I σ 256) ≤ x2 → (wp_X2_startShares b x2 σ (fun (σ14 : hh_S) => (K12 (x2 + (1 : Int32)) σ14)))))
def wp_X2_run (b : Nat) (σ : hh_S) (Q : Int32 → hh_S → Prop) : Prop := (∀ v15 : Int32, v15 = (hh_rA σ 29 (2 : Int32)) → (∃ n : Nat, hh_lp1 (wq_X2_run_12 b v15 Q) n (0 : Int32) σ))
theorem in_X2_run_X2 : ∀ w ∈ u_ws RX2 TX2 9, w ∈ wsX2_run := fun w h => List.mem_cons_of_mem _ (List.mem_append_left _ (List.mem_append_left _ (List.mem_append_left _ (List.mem_append_right _ h))))
theorem in_X2_run_X5 : ∀ w ∈ u_ws RX5 TX5 1, w ∈ wsX2_run := fun w h => List.mem_cons_of_mem _ (List.mem_append_left _ (List.mem_append_left _ (List.mem_append_right _ h)))
theorem in_X2_run_X1 : ∀ w ∈ u_ws RX1 TX1 7, w ∈ wsX2_run := fun w h => List.mem_cons_of_mem _ (List.mem_append_left _ (List.mem_append_right _ h))
theorem in_X2_run_X0 : ∀ w ∈ u_ws RX0 TX0 4, w ∈ wsX2_run := fun w h => List.mem_cons_of_mem _ (List.mem_append_right _ h)
set_option maxHeartbeats 4000000 in
set_option maxRecDepth 100000 in
theorem ad_X2_run {D : va_G} (l : Launch) {cy : Nat → ClassId} {ad : Nat → Nat} (J : hh_J hc_Y ad) {b : Nat} (hb : b = 0 ∨ b = 1) (σ : hh_S) (Q : Int32 → hh_S → Prop) (hq : wp_X2_run b σ Q) : Met l yX2_run wsX2_run rm_X2_run (va_Pc [.ref (ad (7 + b))] (hh_B D hh_cl hc_Y cy ad σ)) (va_Qi Q (hh_B D hh_cl hc_Y cy ad) (hh_A hc_Y ad)) 0 0 (hh_A hc_Y ad) := by
  refine Met.ofW (cc := cX2_run) (maxL := 4) (ret := (some .int)) (by decide) rfl ?_
  intro p e s m args below meth c s₁ B hml hv
  obtain ⟨hargs, hP0, hK0⟩ := hv
  have hr := B.returns
  have hlocks := B.notSynchronized
  have X : hh_X p m c cX2_run 4 s args wsX2_run RX2 D hh_cl hc_Y cy ad := ⟨⟨B.exec, B.bytes, hml, findClass_of_methodNamed B.named, atoms_spec (ws := wsX2_run) B.pre⟩, hK0, J⟩
  have hx := X.1.1
  have hb1 := X.1.2.1
  have h : hh_H D hh_cl hc_Y cy ad s.heap σ s.heap [] := ⟨hP0, va_S.rf⟩
  have lt_43 : ∀ (x1 : Int32) (x2 : Int32) (K36 : Int32 → hh_S → Prop) (hK36 : ∀ (x2 : Int32) (σ : hh_S) (H : Heap) (locs : List Loc) (ls : Array Slot), K36 x2 σ → hh_H D hh_cl hc_Y cy ad s.heap σ H locs → lv_has ls 4 [(0, .ref (ad (7 + b))), (1, .int x1), (2, .int x2)] → W p l e (headSpec wsX2_run rm_X2_run).room s m args below meth c H locs 0 0 (MQ below (va_Qi Q (hh_B D hh_cl hc_Y cy ad) (hh_A hc_Y ad)) args s 0 0 (hh_A hc_Y ad)) (F0 m 36 ls [])) (n : Nat) (x3 : Int32) (σ : hh_S) (H : Heap) (locs : List Loc) (ls : Array Slot), hh_lp1 (wq_X2_run_43 b K36 x1 x2 Q) n x3 σ → hh_H D hh_cl hc_Y cy ad s.heap σ H locs → lv_has ls 4 [(0, .ref (ad (7 + b))), (1, .int x1), (2, .int x2), (3, .int x3)] → W p l e (headSpec wsX2_run rm_X2_run).room s m args below meth c H locs 0 0 (MQ below (va_Qi Q (hh_B D hh_cl hc_Y cy ad) (hh_A hc_Y ad)) args s 0 0 (hh_A hc_Y ad)) (F0 m 43 ls []) := by
    intro x1 x2 K36 hK36 n
    induction n with
    | zero => intro x3 σ H locs ls hq h hl; exact hq.elim
    | succ n ih =>
      intro x3 σ H locs ls hq h hl
      have hq : wq_X2_run_43 b K36 x1 x2 Q (hh_lp1 (wq_X2_run_43 b K36 x1 x2 Q) n) x3 σ := hq
      unfold wq_X2_run_43 at hq
      refine lv_iload_n hx hb1 dX2_run_43 rfl (lv_at hl 3 rfl) ?_
      refine lv_aload_n hx hb1 dX2_run_44 rfl (lv_at hl 0 rfl) ?_
      refine hh_getr X h (fj_3 hb) in_X2_run_X2 (kj hb) (by decide) (List.mem_of_getElem? (i := 5) rfl) rfl dX2_run_45 ?_
      refine hh_geti X h (q := 320) fc_5_0 rfl in_X2_run_X0 kc_5 (by decide) (List.mem_of_getElem? (i := 6) rfl) rfl dX2_run_48 ?_
      refine lv_icmp_ge (tgt := 70) hx hb1 dX2_run_51 (by decide) (fun c1 => ?_) (fun c1 => ?_)
      · have hq := hq.1 c1
        refine lv_aload_n hx hb1 dX2_run_70 rfl (lv_at hl 0 rfl) ?_
        refine hh_kI h (va_runV (As := []) (rest := []) X.1 (ad_X2_renewAll (D := D) l J (b := b) hb σ _ hq) (cwV 0 X.1.2.2.2.2 gX2_run_X2_renewAll rfl rfl rfl nd_X2_renewAll ⟨Nat.le_of_ble_eq_true rfl, Nat.le_of_ble_eq_true rfl⟩) (hh_preV X h (fj_0 hb) (kj hb) []) rfl rfl hl.1 rfl (lv_room (Nat.le_of_ble_eq_true rfl)) dX2_run_71 ⟨Nat.le_of_ble_eq_true rfl, Nat.le_of_ble_eq_true rfl⟩) (fun r2 σ3 H locs hq h => ?_)
        refine lv_aload_n hx hb1 dX2_run_74 rfl (lv_at hl 0 rfl) ?_
        refine hh_getr X h (fj_4 hb) in_X2_run_X2 (kj hb) (by decide) (List.mem_of_getElem? (i := 1) rfl) rfl dX2_run_75 ?_
        refine hh_getr X h fc_6_0 in_X2_run_X5 kc_6 (by decide) (List.mem_of_getElem? (i := 2) rfl) rfl dX2_run_78 ?_
        refine lv_iconst (v := (1 : Int32)) hx hb1 dX2_run_81 (by decide) ?_
        refine hh_ild X h ac_29 (vp_in_iff.mpr (by decide)) dX2_run_82 ?_
        refine lv_icmp_gt (tgt := 88) hx hb1 dX2_run_83 (by decide) (fun c4 => ?_) (fun c4 => ?_)
        · have hq := hq.1 c4
          refine lv_iinc (v := (x2 + (1 : Int32))) (lv' := [(2, .int (x2 + (1 : Int32))), (0, .ref (ad (7 + b))), (1, .int x1), (3, .int x3)]) hx hb1 dX2_run_88 hl (k := 2) rfl rfl (by decide) rfl (fun ls hl => ?_)
          refine lv_goto (tgt := 36) hx hb1 dX2_run_91 (by decide) ?_
          exact hK36 (x2 + (1 : Int32)) σ3 _ _ ls hq h (lv_sub hl [1, 2, 0] rfl)
        · have hq := hq.2 c4
          refine lv_iload_n hx hb1 dX2_run_86 rfl (lv_at hl 2 rfl) ?_
          exact hh_iret X h hr hlocks hq dX2_run_87
      · have hq := hq.2 c1
        refine lv_aload_n hx hb1 dX2_run_54 rfl (lv_at hl 0 rfl) ?_
        refine lv_iload_n hx hb1 dX2_run_55 rfl (lv_at hl 3 rfl) ?_
        refine hh_kV h (va_runV (As := [.int x3]) (rest := []) X.1 (ad_X2_sumSaid (D := D) l J (b := b) hb x3 σ _ hq) (cwV 1 X.1.2.2.2.2 gX2_run_X2_sumSaid rfl rfl rfl nd_X2_sumSaid ⟨Nat.le_of_ble_eq_true rfl, Nat.le_of_ble_eq_true rfl⟩) (hh_preV X h (fj_0 hb) (kj hb) [.int x3]) rfl rfl hl.1 rfl (lv_room (Nat.le_of_ble_eq_true rfl)) dX2_run_56 ⟨Nat.le_of_ble_eq_true rfl, Nat.le_of_ble_eq_true rfl⟩) (fun σ6 H locs hq h => ?_)
        refine lv_aload_n hx hb1 dX2_run_59 rfl (lv_at hl 0 rfl) ?_
        refine lv_iload_n hx hb1 dX2_run_60 rfl (lv_at hl 3 rfl) ?_
        refine hh_kV h (va_runV (As := [.int x3]) (rest := []) X.1 (ad_X2_fillTables (D := D) l J (b := b) hb x3 σ6 _ hq) (cwV 1 X.1.2.2.2.2 gX2_run_X2_fillTables rfl rfl rfl nd_X2_fillTables ⟨Nat.le_of_ble_eq_true rfl, Nat.le_of_ble_eq_true rfl⟩) (hh_preV X h (fj_0 hb) (kj hb) [.int x3]) rfl rfl hl.1 rfl (lv_room (Nat.le_of_ble_eq_true rfl)) dX2_run_61 ⟨Nat.le_of_ble_eq_true rfl, Nat.le_of_ble_eq_true rfl⟩) (fun σ8 H locs hq h => ?_)
        refine lv_iinc (v := (x3 + (1 : Int32))) (lv' := [(3, .int (x3 + (1 : Int32))), (0, .ref (ad (7 + b))), (1, .int x1), (2, .int x2)]) hx hb1 dX2_run_64 hl (k := 3) rfl rfl (by decide) rfl (fun ls hl => ?_)
        refine lv_goto (tgt := 43) hx hb1 dX2_run_67 (by decide) ?_
        exact ih (x3 + (1 : Int32)) σ8 _ _ ls hq h (lv_sub hl [1, 2, 3, 0] rfl)
  have lt_36 : ∀ (x1 : Int32) (n : Nat) (x2 : Int32) (σ : hh_S) (H : Heap) (locs : List Loc) (ls : Array Slot), hh_lp1 (wq_X2_run_36 b x1 Q) n x2 σ → hh_H D hh_cl hc_Y cy ad s.heap σ H locs → lv_has ls 4 [(0, .ref (ad (7 + b))), (1, .int x1), (2, .int x2)] → W p l e (headSpec wsX2_run rm_X2_run).room s m args below meth c H locs 0 0 (MQ below (va_Qi Q (hh_B D hh_cl hc_Y cy ad) (hh_A hc_Y ad)) args s 0 0 (hh_A hc_Y ad)) (F0 m 36 ls []) := by
    intro x1 n
    induction n with
    | zero => intro x2 σ H locs ls hq h hl; exact hq.elim
    | succ n ih =>
      intro x2 σ H locs ls hq h hl
      have hq : wq_X2_run_36 b x1 Q (hh_lp1 (wq_X2_run_36 b x1 Q) n) x2 σ := hq
      unfold wq_X2_run_36 at hq
      refine lv_iload_n hx hb1 dX2_run_36 rfl (lv_at hl 2 rfl) ?_
      refine lv_iload_n hx hb1 dX2_run_37 rfl (lv_at hl 1 rfl) ?_
      refine lv_icmp_gt (tgt := 94) hx hb1 dX2_run_38 (by decide) (fun c9 => ?_) (fun c9 => ?_)
      · have hq := hq.1 c9
        refine lv_iload_n hx hb1 dX2_run_94 rfl (lv_at hl 1 rfl) ?_
        refine lv_bipush (v := (100 : Int32)) hx hb1 dX2_run_95 (by decide) ?_
        refine lv_isub hx hb1 dX2_run_97 ?_
        exact hh_iret X h hr hlocks hq dX2_run_98
      · have hq := hq.2 c9
        refine lv_iconst (v := (0 : Int32)) hx hb1 dX2_run_41 (by decide) ?_
        refine lv_istore_n (lv' := [(3, .int (0 : Int32)), (0, .ref (ad (7 + b))), (1, .int x1), (2, .int x2)]) hx hb1 dX2_run_42 rfl hl (by decide) rfl (fun ls hl => ?_)
        obtain ⟨n10, hq⟩ := hq
        exact lt_43 x1 x2 (hh_lp1 (wq_X2_run_36 b x1 Q) n) ih n10 (0 : Int32) σ _ _ ls hq h (lv_sub hl [1, 2, 3, 0] rfl)
  have lt_12 : ∀ (x1 : Int32) (n : Nat) (x2 : Int32) (σ : hh_S) (H : Heap) (locs : List Loc) (ls : Array Slot), hh_lp1 (wq_X2_run_12 b x1 Q) n x2 σ → hh_H D hh_cl hc_Y cy ad s.heap σ H locs → lv_has ls 4 [(0, .ref (ad (7 + b))), (1, .int x1), (2, .int x2)] → W p l e (headSpec wsX2_run rm_X2_run).room s m args below meth c H locs 0 0 (MQ below (va_Qi Q (hh_B D hh_cl hc_Y cy ad) (hh_A hc_Y ad)) args s 0 0 (hh_A hc_Y ad)) (F0 m 12 ls []) := by
    intro x1 n
    induction n with
    | zero => intro x2 σ H locs ls hq h hl; exact hq.elim
    | succ n ih =>
      intro x2 σ H locs ls hq h hl
      have hq : wq_X2_run_12 b x1 Q (hh_lp1 (wq_X2_run_12 b x1 Q) n) x2 σ := hq
      unfold wq_X2_run_12 at hq
      refine lv_iload_n hx hb1 dX2_run_12 rfl (lv_at hl 2 rfl) ?_
      refine lv_aload_n hx hb1 dX2_run_13 rfl (lv_at hl 0 rfl) ?_
      refine hh_getr X h (fj_2 hb) in_X2_run_X2 (kj hb) (by decide) (List.mem_of_getElem? (i := 3) rfl) rfl dX2_run_14 ?_
      refine hh_geti X h (q := 256) fc_4_0 rfl in_X2_run_X1 kc_4 (by decide) (List.mem_of_getElem? (i := 4) rfl) rfl dX2_run_17 ?_
      refine lv_icmp_ge (tgt := 34) hx hb1 dX2_run_20 (by decide) (fun c11 => ?_) (fun c11 => ?_)
      · have hq := hq.1 c11
        refine lv_iconst (v := (1 : Int32)) hx hb1 dX2_run_34 (by decide) ?_
        refine lv_istore_n (lv' := [(2, .int (1 : Int32)), (0, .ref (ad (7 + b))), (1, .int x1)]) hx hb1 dX2_run_35 rfl hl (by decide) rfl (fun ls hl => ?_)
        obtain ⟨n12, hq⟩ := hq
        exact lt_36 x1 n12 (1 : Int32) σ _ _ ls hq h (lv_sub hl [1, 2, 0] rfl)
      · have hq := hq.2 c11
        refine lv_aload_n hx hb1 dX2_run_23 rfl (lv_at hl 0 rfl) ?_
        refine lv_iload_n hx hb1 dX2_run_24 rfl (lv_at hl 2 rfl) ?_
        refine hh_kV h (va_runV (As := [.int x2]) (rest := []) X.1 (ad_X2_startShares (D := D) l J (b := b) hb x2 σ _ hq) (cwV 1 X.1.2.2.2.2 gX2_run_X2_startShares rfl rfl rfl nd_X2_startShares ⟨Nat.le_of_ble_eq_true rfl, Nat.le_of_ble_eq_true rfl⟩) (hh_preV X h (fj_0 hb) (kj hb) [.int x2]) rfl rfl hl.1 rfl (lv_room (Nat.le_of_ble_eq_true rfl)) dX2_run_25 ⟨Nat.le_of_ble_eq_true rfl, Nat.le_of_ble_eq_true rfl⟩) (fun σ14 H locs hq h => ?_)
        refine lv_iinc (v := (x2 + (1 : Int32))) (lv' := [(2, .int (x2 + (1 : Int32))), (0, .ref (ad (7 + b))), (1, .int x1)]) hx hb1 dX2_run_28 hl (k := 2) rfl rfl (by decide) rfl (fun ls hl => ?_)
        refine lv_goto (tgt := 12) hx hb1 dX2_run_31 (by decide) ?_
        exact ih (x2 + (1 : Int32)) σ14 _ _ ls hq h (lv_sub hl [1, 2, 0] rfl)
  subst hargs
  refine hh_entry (vs := [.ref (ad (7 + b))]) (Nat.le_of_ble_eq_true rfl) (fun ls hl => ?_)
  have hl : lv_has ls 4 [(0, .ref (ad (7 + b)))] := hl
  have hq : wp_X2_run b σ Q := hq
  unfold wp_X2_run at hq
  refine lv_aload_n hx hb1 dX2_run_0 rfl (lv_at hl 0 rfl) ?_
  refine hh_getr X h (fj_4 hb) in_X2_run_X2 (kj hb) (by decide) (List.mem_of_getElem? (i := 1) rfl) rfl dX2_run_1 ?_
  refine hh_getr X h fc_6_0 in_X2_run_X5 kc_6 (by decide) (List.mem_of_getElem? (i := 2) rfl) rfl dX2_run_4 ?_
  refine lv_iconst (v := (2 : Int32)) hx hb1 dX2_run_7 (by decide) ?_
  refine hh_ild X h ac_29 (vp_in_iff.mpr (by decide)) dX2_run_8 ?_
  refine lv_topi (fun v15 ev15 => ?_)
  have hq := hq v15 ev15
  refine lv_istore_n (lv' := [(1, .int v15), (0, .ref (ad (7 + b)))]) hx hb1 dX2_run_9 rfl hl (by decide) rfl (fun ls hl => ?_)
  refine lv_iconst (v := (0 : Int32)) hx hb1 dX2_run_10 (by decide) ?_
  refine lv_istore_n (lv' := [(2, .int (0 : Int32)), (1, .int v15), (0, .ref (ad (7 + b)))]) hx hb1 dX2_run_11 rfl hl (by decide) rfl (fun ls hl => ?_)
  obtain ⟨n16, hq⟩ := hq
  exact lt_12 v15 n16 (0 : Int32) σ _ _ ls hq h (lv_sub hl [2, 1, 0] rfl)
theorem nd_X2_greatest : yX2_greatest.cls = RX2 ∧ yX2_greatest.cls ≠ "java/lang/invoke/MethodHandle" ∧ yX2_greatest.cls ≠ "java/lang/invoke/VarHandle" ∧ (parseMethodDescriptor yX2_greatest.desc).map (fun d => d.parameters.length) = some 1 := by decide +kernel
abbrev rm_X2_greatest : Room := { frames := 0, cells := 0, slots := 0, locals := 0 }
def wq_X2_greatest_4 (b : Nat) (x1 : Int32) (Q : Int32 → hh_S → Prop) (K4 : Int32 → Int32 → hh_S → Prop) (x2 : Int32) (x3 : Int32) (σ : hh_S) : Prop := (vp_in x1 24 ∧ (((hh_rA σ 22 x1) ≤ x3 → (Q x2 σ)) ∧ (¬ (hh_rA σ 22 x1) ≤ x3 → (vp_in x1 24 ∧ (vp_in x3 4 ∧ (vp_in x1 24 ∧ (vp_in x2 4 ∧ (((hh_rA σ ((55 + 34 * b) + (x1).toNatClampNeg) x3) ≤ (hh_rA σ ((55 + 34 * b) + (x1).toNatClampNeg) x2) → (K4 x2 (x3 + (1 : Int32)) σ)) ∧ (¬ (hh_rA σ ((55 + 34 * b) + (x1).toNatClampNeg) x3) ≤ (hh_rA σ ((55 + 34 * b) + (x1).toNatClampNeg) x2) → (K4 x3 (x3 + (1 : Int32)) σ))))))))))
def wp_X2_greatest (b : Nat) (x1 : Int32) (σ : hh_S) (Q : Int32 → hh_S → Prop) : Prop := (∃ n : Nat, hh_lp2 (wq_X2_greatest_4 b x1 Q) n (0 : Int32) (1 : Int32) σ)
theorem in_X2_greatest_X2 : ∀ w ∈ u_ws RX2 TX2 9, w ∈ wsX2_greatest := fun w h => List.mem_cons_of_mem _ (List.mem_append_left _ (List.mem_append_right _ h))
theorem in_X2_greatest_X1 : ∀ w ∈ u_ws RX1 TX1 7, w ∈ wsX2_greatest := fun w h => List.mem_cons_of_mem _ (List.mem_append_right _ h)
set_option maxHeartbeats 4000000 in
set_option maxRecDepth 100000 in
theorem ad_X2_greatest {D : va_G} (l : Launch) {cy : Nat → ClassId} {ad : Nat → Nat} (J : hh_J hc_Y ad) {b : Nat} (hb : b = 0 ∨ b = 1) (x1 : Int32) (σ : hh_S) (Q : Int32 → hh_S → Prop) (hq : wp_X2_greatest b x1 σ Q) : Met l yX2_greatest wsX2_greatest rm_X2_greatest (va_Pc [.ref (ad (7 + b)), .int x1] (hh_B D hh_cl hc_Y cy ad σ)) (va_Qi Q (hh_B D hh_cl hc_Y cy ad) (hh_A hc_Y ad)) 0 0 (hh_A hc_Y ad) := by
  refine Met.ofW (cc := cX2_greatest) (maxL := 4) (ret := (some .int)) (by decide) rfl ?_
  intro p e s m args below meth c s₁ B hml hv
  obtain ⟨hargs, hP0, hK0⟩ := hv
  have hr := B.returns
  have hlocks := B.notSynchronized
  have X : hh_X p m c cX2_greatest 4 s args wsX2_greatest RX2 D hh_cl hc_Y cy ad := ⟨⟨B.exec, B.bytes, hml, findClass_of_methodNamed B.named, atoms_spec (ws := wsX2_greatest) B.pre⟩, hK0, J⟩
  have hx := X.1.1
  have hb1 := X.1.2.1
  have h : hh_H D hh_cl hc_Y cy ad s.heap σ s.heap [] := ⟨hP0, va_S.rf⟩
  have lt_4 : ∀ (x1 : Int32) (n : Nat) (x2 : Int32) (x3 : Int32) (σ : hh_S) (H : Heap) (locs : List Loc) (ls : Array Slot), hh_lp2 (wq_X2_greatest_4 b x1 Q) n x2 x3 σ → hh_H D hh_cl hc_Y cy ad s.heap σ H locs → lv_has ls 4 [(0, .ref (ad (7 + b))), (1, .int x1), (2, .int x2), (3, .int x3)] → W p l e (headSpec wsX2_greatest rm_X2_greatest).room s m args below meth c H locs 0 0 (MQ below (va_Qi Q (hh_B D hh_cl hc_Y cy ad) (hh_A hc_Y ad)) args s 0 0 (hh_A hc_Y ad)) (F0 m 4 ls []) := by
    intro x1 n
    induction n with
    | zero => intro x2 x3 σ H locs ls hq h hl; exact hq.elim
    | succ n ih =>
      intro x2 x3 σ H locs ls hq h hl
      have hq : wq_X2_greatest_4 b x1 Q (hh_lp2 (wq_X2_greatest_4 b x1 Q) n) x2 x3 σ := hq
      unfold wq_X2_greatest_4 at hq
      refine lv_iload_n hx hb1 dX2_greatest_4 rfl (lv_at hl 3 rfl) ?_
      refine lv_aload_n hx hb1 dX2_greatest_5 rfl (lv_at hl 0 rfl) ?_
      refine hh_getr X h (fj_2 hb) in_X2_greatest_X2 (kj hb) (by decide) (List.mem_of_getElem? (i := 1) rfl) rfl dX2_greatest_6 ?_
      refine hh_getr X h fc_4_3 in_X2_greatest_X1 kc_4 (by decide) (List.mem_of_getElem? (i := 2) rfl) rfl dX2_greatest_9 ?_
      refine lv_iload_n hx hb1 dX2_greatest_12 rfl (lv_at hl 1 rfl) ?_
      obtain ⟨h1, hq⟩ := hq
      refine hh_ild X h ac_22 h1 dX2_greatest_13 ?_
      refine lv_icmp_ge (tgt := 44) hx hb1 dX2_greatest_14 (by decide) (fun c2 => ?_) (fun c2 => ?_)
      · have hq := hq.1 c2
        refine lv_iload_n hx hb1 dX2_greatest_44 rfl (lv_at hl 2 rfl) ?_
        exact hh_iret X h hr hlocks hq dX2_greatest_45
      · have hq := hq.2 c2
        refine lv_aload_n hx hb1 dX2_greatest_17 rfl (lv_at hl 0 rfl) ?_
        refine hh_getr X h (fj_0 hb) in_X2_greatest_X2 (kj hb) (by decide) (List.mem_of_getElem? (i := 3) rfl) rfl dX2_greatest_18 ?_
        refine lv_iload_n hx hb1 dX2_greatest_21 rfl (lv_at hl 1 rfl) ?_
        obtain ⟨h3, hq⟩ := hq
        refine hh_ald X h (aj_30 hb) h3 dX2_greatest_22 ?_
        refine lv_iload_n hx hb1 dX2_greatest_23 rfl (lv_at hl 3 rfl) ?_
        obtain ⟨h4, hq⟩ := hq
        refine hh_ild X h (ar_sh hb h3) h4 dX2_greatest_24 ?_
        refine lv_aload_n hx hb1 dX2_greatest_25 rfl (lv_at hl 0 rfl) ?_
        refine hh_getr X h (fj_0 hb) in_X2_greatest_X2 (kj hb) (by decide) (List.mem_of_getElem? (i := 3) rfl) rfl dX2_greatest_26 ?_
        refine lv_iload_n hx hb1 dX2_greatest_29 rfl (lv_at hl 1 rfl) ?_
        obtain ⟨h5, hq⟩ := hq
        refine hh_ald X h (aj_30 hb) h5 dX2_greatest_30 ?_
        refine lv_iload_n hx hb1 dX2_greatest_31 rfl (lv_at hl 2 rfl) ?_
        obtain ⟨h6, hq⟩ := hq
        refine hh_ild X h (ar_sh hb h5) h6 dX2_greatest_32 ?_
        refine lv_icmp_le (tgt := 38) hx hb1 dX2_greatest_33 (by decide) (fun c7 => ?_) (fun c7 => ?_)
        · have hq := hq.1 c7
          refine lv_iinc (v := (x3 + (1 : Int32))) (lv' := [(3, .int (x3 + (1 : Int32))), (0, .ref (ad (7 + b))), (1, .int x1), (2, .int x2)]) hx hb1 dX2_greatest_38 hl (k := 3) rfl rfl (by decide) rfl (fun ls hl => ?_)
          refine lv_goto (tgt := 4) hx hb1 dX2_greatest_41 (by decide) ?_
          exact ih x2 (x3 + (1 : Int32)) σ _ _ ls hq h (lv_sub hl [1, 2, 3, 0] rfl)
        · have hq := hq.2 c7
          refine lv_iload_n hx hb1 dX2_greatest_36 rfl (lv_at hl 3 rfl) ?_
          refine lv_istore_n (lv' := [(2, .int x3), (0, .ref (ad (7 + b))), (1, .int x1), (3, .int x3)]) hx hb1 dX2_greatest_37 rfl hl (by decide) rfl (fun ls hl => ?_)
          refine lv_iinc (v := (x3 + (1 : Int32))) (lv' := [(3, .int (x3 + (1 : Int32))), (2, .int x3), (0, .ref (ad (7 + b))), (1, .int x1)]) hx hb1 dX2_greatest_38 hl (k := 3) rfl rfl (by decide) rfl (fun ls hl => ?_)
          refine lv_goto (tgt := 4) hx hb1 dX2_greatest_41 (by decide) ?_
          exact ih x3 (x3 + (1 : Int32)) σ _ _ ls hq h (lv_sub hl [2, 3, 1, 0] rfl)
  subst hargs
  refine hh_entry (vs := [.ref (ad (7 + b)), .int x1]) (Nat.le_of_ble_eq_true rfl) (fun ls hl => ?_)
  have hl : lv_has ls 4 [(0, .ref (ad (7 + b))), (1, .int x1)] := hl
  have hq : wp_X2_greatest b x1 σ Q := hq
  unfold wp_X2_greatest at hq
  refine lv_iconst (v := (0 : Int32)) hx hb1 dX2_greatest_0 (by decide) ?_
  refine lv_istore_n (lv' := [(2, .int (0 : Int32)), (0, .ref (ad (7 + b))), (1, .int x1)]) hx hb1 dX2_greatest_1 rfl hl (by decide) rfl (fun ls hl => ?_)
  refine lv_iconst (v := (1 : Int32)) hx hb1 dX2_greatest_2 (by decide) ?_
  refine lv_istore_n (lv' := [(3, .int (1 : Int32)), (2, .int (0 : Int32)), (0, .ref (ad (7 + b))), (1, .int x1)]) hx hb1 dX2_greatest_3 rfl hl (by decide) rfl (fun ls hl => ?_)
  obtain ⟨n8, hq⟩ := hq
  exact lt_4 x1 n8 (0 : Int32) (1 : Int32) σ _ _ ls hq h (lv_sub hl [2, 3, 1, 0] rfl)
theorem nd_X2_helpOf : yX2_helpOf.cls = RX2 ∧ yX2_helpOf.cls ≠ "java/lang/invoke/MethodHandle" ∧ yX2_helpOf.cls ≠ "java/lang/invoke/VarHandle" ∧ (parseMethodDescriptor yX2_helpOf.desc).map (fun d => d.parameters.length) = some 2 := by decide +kernel
abbrev rm_X2_helpOf : Room := { frames := 1, cells := 0, slots := 0, locals := 40 }
def wq_X2_helpOf_28 (b : Nat) (K16 : Int64 → Int32 → hh_S → Prop) (x1 : Int32) (x2 : Int32) (x3 : Int32) (x4 : Int64) (x6 : Int32) (Q : Int32 → hh_S → Prop) (K28 : Int64 → Int32 → hh_S → Prop) (x7 : Int64) (x9 : Int32) (σ : hh_S) : Prop := ((x3 ≤ x9 → (K16 (x4 + x7) (x6 + (1 : Int32)) σ)) ∧ (¬ x3 ≤ x9 → (vp_in x1 24 ∧ (vp_in x9 4 ∧ (vp_in x2 10 ∧ (wp_X2_spot x3 x9 x6 σ (fun (r5 : Int32) (σ6 : hh_S) => (vp_in r5 48 ∧ (∀ v8 : Int64, v8 = (if (((hh_rA σ ((55 + 34 * b) + (x1).toNatClampNeg) x9).toInt64) * ((hh_rA σ6 ((79 + 34 * b) + (x2).toNatClampNeg) r5).toInt64)) < x7 then x7 else (((hh_rA σ ((55 + 34 * b) + (x1).toNatClampNeg) x9).toInt64) * ((hh_rA σ6 ((79 + 34 * b) + (x2).toNatClampNeg) r5).toInt64))) → (K28 v8 (x9 + (1 : Int32)) σ6))))))))))
def wq_X2_helpOf_16 (b : Nat) (x1 : Int32) (x2 : Int32) (x3 : Int32) (Q : Int32 → hh_S → Prop) (K16 : Int64 → Int32 → hh_S → Prop) (x4 : Int64) (x6 : Int32) (σ : hh_S) : Prop := ((x3 ≤ x6 → (vp_in x1 24 ∧ (wp_X2_greatest b x1 σ (fun (r11 : Int32) (σ12 : hh_S) => (vp_in r11 4 ∧ (Q (((x4 / (1000 : Int64)).toInt32) - (hh_rA σ12 ((55 + 34 * b) + (x1).toNatClampNeg) r11)) σ12)))))) ∧ (¬ x3 ≤ x6 → (∃ n : Nat, hh_lp2 (wq_X2_helpOf_28 b K16 x1 x2 x3 x4 x6 Q) n (0 : Int64) (0 : Int32) σ)))
def wp_X2_helpOf (b : Nat) (x1 : Int32) (x2 : Int32) (σ : hh_S) (Q : Int32 → hh_S → Prop) : Prop := (vp_in x1 24 ∧ (∀ v16 : Int32, v16 = (hh_rA σ 22 x1) → (∃ n : Nat, hh_lp2 (wq_X2_helpOf_16 b x1 x2 v16 Q) n (0 : Int64) (0 : Int32) σ)))
theorem in_X2_helpOf_X2 : ∀ w ∈ u_ws RX2 TX2 9, w ∈ wsX2_helpOf := fun w h => List.mem_cons_of_mem _ (List.mem_append_left _ (List.mem_append_right _ h))
theorem in_X2_helpOf_X1 : ∀ w ∈ u_ws RX1 TX1 7, w ∈ wsX2_helpOf := fun w h => List.mem_cons_of_mem _ (List.mem_append_right _ h)
set_option maxHeartbeats 4000000 in
set_option maxRecDepth 100000 in
theorem ad_X2_helpOf {D : va_G} (l : Launch) {cy : Nat → ClassId} {ad : Nat → Nat} (J : hh_J hc_Y ad) {b : Nat} (hb : b = 0 ∨ b = 1) (x1 : Int32) (x2 : Int32) (σ : hh_S) (Q : Int32 → hh_S → Prop) (hq : wp_X2_helpOf b x1 x2 σ Q) : Met l yX2_helpOf wsX2_helpOf rm_X2_helpOf (va_Pc [.ref (ad (7 + b)), .int x1, .int x2] (hh_B D hh_cl hc_Y cy ad σ)) (va_Qi Q (hh_B D hh_cl hc_Y cy ad) (hh_A hc_Y ad)) 0 0 (hh_A hc_Y ad) := by
  refine Met.ofW (cc := cX2_helpOf) (maxL := 10) (ret := (some .int)) (by decide) rfl ?_
  intro p e s m args below meth c s₁ B hml hv
  obtain ⟨hargs, hP0, hK0⟩ := hv
  have hr := B.returns
  have hlocks := B.notSynchronized
  have X : hh_X p m c cX2_helpOf 10 s args wsX2_helpOf RX2 D hh_cl hc_Y cy ad := ⟨⟨B.exec, B.bytes, hml, findClass_of_methodNamed B.named, atoms_spec (ws := wsX2_helpOf) B.pre⟩, hK0, J⟩
  have hx := X.1.1
  have hb1 := X.1.2.1
  have h : hh_H D hh_cl hc_Y cy ad s.heap σ s.heap [] := ⟨hP0, va_S.rf⟩
  have lt_28 : ∀ (x1 : Int32) (x2 : Int32) (x3 : Int32) (x4 : Int64) (x6 : Int32) (K16 : Int64 → Int32 → hh_S → Prop) (hK16 : ∀ (x4 : Int64) (x6 : Int32) (σ : hh_S) (H : Heap) (locs : List Loc) (ls : Array Slot), K16 x4 x6 σ → hh_H D hh_cl hc_Y cy ad s.heap σ H locs → lv_has ls 10 [(0, .ref (ad (7 + b))), (1, .int x1), (2, .int x2), (3, .int x3), (4, .long x4), (6, .int x6)] → W p l e (headSpec wsX2_helpOf rm_X2_helpOf).room s m args below meth c H locs 0 0 (MQ below (va_Qi Q (hh_B D hh_cl hc_Y cy ad) (hh_A hc_Y ad)) args s 0 0 (hh_A hc_Y ad)) (F0 m 16 ls [])) (n : Nat) (x7 : Int64) (x9 : Int32) (σ : hh_S) (H : Heap) (locs : List Loc) (ls : Array Slot), hh_lp2 (wq_X2_helpOf_28 b K16 x1 x2 x3 x4 x6 Q) n x7 x9 σ → hh_H D hh_cl hc_Y cy ad s.heap σ H locs → lv_has ls 10 [(0, .ref (ad (7 + b))), (1, .int x1), (2, .int x2), (3, .int x3), (4, .long x4), (6, .int x6), (7, .long x7), (9, .int x9)] → W p l e (headSpec wsX2_helpOf rm_X2_helpOf).room s m args below meth c H locs 0 0 (MQ below (va_Qi Q (hh_B D hh_cl hc_Y cy ad) (hh_A hc_Y ad)) args s 0 0 (hh_A hc_Y ad)) (F0 m 28 ls []) := by
    intro x1 x2 x3 x4 x6 K16 hK16 n
    induction n with
    | zero => intro x7 x9 σ H locs ls hq h hl; exact hq.elim
    | succ n ih =>
      intro x7 x9 σ H locs ls hq h hl
      have hq : wq_X2_helpOf_28 b K16 x1 x2 x3 x4 x6 Q (hh_lp2 (wq_X2_helpOf_28 b K16 x1 x2 x3 x4 x6 Q) n) x7 x9 σ := hq
      unfold wq_X2_helpOf_28 at hq
      refine lv_iload hx hb1 dX2_helpOf_28 (lv_at hl 7 rfl) ?_
      refine lv_iload_n hx hb1 dX2_helpOf_30 rfl (lv_at hl 3 rfl) ?_
      refine lv_icmp_ge (tgt := 74) hx hb1 dX2_helpOf_31 (by decide) (fun c1 => ?_) (fun c1 => ?_)
      · have hq := hq.1 c1
        refine lv_lload hx hb1 dX2_helpOf_74 (lv_at hl 4 rfl) ?_
        refine lv_lload hx hb1 dX2_helpOf_76 (lv_at hl 6 rfl) ?_
        refine lv_ladd hx hb1 dX2_helpOf_78 ?_
        refine lv_lstore (lv' := [(4, .long (x4 + x7)), (0, .ref (ad (7 + b))), (1, .int x1), (2, .int x2), (3, .int x3), (6, .int x6), (7, .long x7), (9, .int x9)]) hx hb1 dX2_helpOf_79 hl (by decide) rfl (fun ls hl => ?_)
        refine lv_iinc (v := (x6 + (1 : Int32))) (lv' := [(6, .int (x6 + (1 : Int32))), (4, .long (x4 + x7)), (0, .ref (ad (7 + b))), (1, .int x1), (2, .int x2), (3, .int x3), (7, .long x7), (9, .int x9)]) hx hb1 dX2_helpOf_81 hl (k := 5) rfl rfl (by decide) rfl (fun ls hl => ?_)
        refine lv_goto (tgt := 16) hx hb1 dX2_helpOf_84 (by decide) ?_
        exact hK16 (x4 + x7) (x6 + (1 : Int32)) σ _ _ ls hq h (lv_sub hl [2, 3, 4, 5, 1, 0] rfl)
      · have hq := hq.2 c1
        refine lv_lload hx hb1 dX2_helpOf_34 (lv_at hl 6 rfl) ?_
        refine lv_aload_n hx hb1 dX2_helpOf_36 rfl (lv_at hl 0 rfl) ?_
        refine hh_getr X h (fj_0 hb) in_X2_helpOf_X2 (kj hb) (by decide) (List.mem_of_getElem? (i := 3) rfl) rfl dX2_helpOf_37 ?_
        refine lv_iload_n hx hb1 dX2_helpOf_40 rfl (lv_at hl 1 rfl) ?_
        obtain ⟨h2, hq⟩ := hq
        refine hh_ald X h (aj_30 hb) h2 dX2_helpOf_41 ?_
        refine lv_iload hx hb1 dX2_helpOf_42 (lv_at hl 7 rfl) ?_
        obtain ⟨h3, hq⟩ := hq
        refine hh_ild X h (ar_sh hb h2) h3 dX2_helpOf_44 ?_
        refine lv_i2l (v := ((hh_rA σ ((55 + 34 * b) + (x1).toNatClampNeg) x9)).toInt64) hx hb1 dX2_helpOf_45 rfl ?_
        refine lv_aload_n hx hb1 dX2_helpOf_46 rfl (lv_at hl 0 rfl) ?_
        refine hh_getr X h (fj_1 hb) in_X2_helpOf_X2 (kj hb) (by decide) (List.mem_of_getElem? (i := 4) rfl) rfl dX2_helpOf_47 ?_
        refine lv_iload_n hx hb1 dX2_helpOf_50 rfl (lv_at hl 2 rfl) ?_
        obtain ⟨h4, hq⟩ := hq
        refine hh_ald X h (aj_31 hb) h4 dX2_helpOf_51 ?_
        refine lv_iload_n hx hb1 dX2_helpOf_52 rfl (lv_at hl 3 rfl) ?_
        refine lv_iload hx hb1 dX2_helpOf_53 (lv_at hl 7 rfl) ?_
        refine lv_iload hx hb1 dX2_helpOf_55 (lv_at hl 5 rfl) ?_
        refine hh_kI h (va_runS (As := [.int x3, .int x9, .int x6]) (rest := [.ref (ad ((79 + 34 * b) + (x2).toNatClampNeg)), .long ((hh_rA σ ((55 + 34 * b) + (x1).toNatClampNeg) x9).toInt64), .long x7]) X.1 (ad_X2_spot (D := D) l J x3 x9 x6 σ _ hq) (va_cwS 3 X.1.2.2.2.2 gX2_helpOf_X2_spot rfl rfl rfl nd_X2_spot ⟨Nat.le_of_ble_eq_true rfl, Nat.le_of_ble_eq_true rfl⟩) (hh_preS X h [.int x3, .int x9, .int x6]) rfl rfl hl.1 rfl (lv_room (Nat.le_of_ble_eq_true rfl)) dX2_helpOf_57 ⟨Nat.le_of_ble_eq_true rfl, Nat.le_of_ble_eq_true rfl⟩) (fun r5 σ6 H locs hq h => ?_)
        obtain ⟨h7, hq⟩ := hq
        refine hh_ild X h (ar_nu hb h4) h7 dX2_helpOf_60 ?_
        refine lv_i2l (v := ((hh_rA σ6 ((79 + 34 * b) + (x2).toNatClampNeg) r5)).toInt64) hx hb1 dX2_helpOf_61 rfl ?_
        refine lv_lmul hx hb1 dX2_helpOf_62 ?_
        refine va_mmax_long hx hb1 (X.1.2.2.1.trans hl.1.symm) X.1.2.2.2.1 (X.1.2.2.2.2 _ (List.mem_of_getElem? (i := 5) rfl)) (X.1.2.2.2.2 _ (List.mem_of_getElem? (i := 6) rfl)) (X.1.2.2.2.2 _ (List.mem_of_getElem? (i := 7) rfl)) (X.1.2.2.2.2 _ (List.mem_of_getElem? (i := 8) rfl)) (Nat.le_of_ble_eq_true rfl) (Nat.le_of_ble_eq_true rfl) (Nat.zero_le _) (Nat.zero_le _) dX2_helpOf_63 ?_
        refine lv_topl (fun v8 ev8 => ?_)
        have hq := hq v8 ev8
        refine lv_lstore (lv' := [(7, .long v8), (0, .ref (ad (7 + b))), (1, .int x1), (2, .int x2), (3, .int x3), (4, .long x4), (6, .int x6), (9, .int x9)]) hx hb1 dX2_helpOf_66 hl (by decide) rfl (fun ls hl => ?_)
        refine lv_iinc (v := (x9 + (1 : Int32))) (lv' := [(9, .int (x9 + (1 : Int32))), (7, .long v8), (0, .ref (ad (7 + b))), (1, .int x1), (2, .int x2), (3, .int x3), (4, .long x4), (6, .int x6)]) hx hb1 dX2_helpOf_68 hl (k := 7) rfl rfl (by decide) rfl (fun ls hl => ?_)
        refine lv_goto (tgt := 28) hx hb1 dX2_helpOf_71 (by decide) ?_
        exact ih v8 (x9 + (1 : Int32)) σ6 _ _ ls hq h (lv_sub hl [2, 3, 4, 5, 6, 7, 1, 0] rfl)
  have lt_16 : ∀ (x1 : Int32) (x2 : Int32) (x3 : Int32) (n : Nat) (x4 : Int64) (x6 : Int32) (σ : hh_S) (H : Heap) (locs : List Loc) (ls : Array Slot), hh_lp2 (wq_X2_helpOf_16 b x1 x2 x3 Q) n x4 x6 σ → hh_H D hh_cl hc_Y cy ad s.heap σ H locs → lv_has ls 10 [(0, .ref (ad (7 + b))), (1, .int x1), (2, .int x2), (3, .int x3), (4, .long x4), (6, .int x6)] → W p l e (headSpec wsX2_helpOf rm_X2_helpOf).room s m args below meth c H locs 0 0 (MQ below (va_Qi Q (hh_B D hh_cl hc_Y cy ad) (hh_A hc_Y ad)) args s 0 0 (hh_A hc_Y ad)) (F0 m 16 ls []) := by
    intro x1 x2 x3 n
    induction n with
    | zero => intro x4 x6 σ H locs ls hq h hl; exact hq.elim
    | succ n ih =>
      intro x4 x6 σ H locs ls hq h hl
      have hq : wq_X2_helpOf_16 b x1 x2 x3 Q (hh_lp2 (wq_X2_helpOf_16 b x1 x2 x3 Q) n) x4 x6 σ := hq
      unfold wq_X2_helpOf_16 at hq
      refine lv_iload hx hb1 dX2_helpOf_16 (lv_at hl 5 rfl) ?_
      refine lv_iload_n hx hb1 dX2_helpOf_18 rfl (lv_at hl 3 rfl) ?_
      refine lv_icmp_ge (tgt := 87) hx hb1 dX2_helpOf_19 (by decide) (fun c9 => ?_) (fun c9 => ?_)
      · have hq := hq.1 c9
        refine lv_lload hx hb1 dX2_helpOf_87 (lv_at hl 4 rfl) ?_
        refine lv_ldc2 (v := (1000 : Int64)) hx hb1 X.1.2.2.2.1 (X.1.2.2.2.2 _ (List.mem_of_getElem? (i := 9) rfl)) dX2_helpOf_89 ?_
        refine lv_ldiv hx hb1 dX2_helpOf_92 (by decide) ?_
        refine lv_l2i (v := ((x4 / (1000 : Int64))).toInt32) hx hb1 dX2_helpOf_93 rfl ?_
        refine lv_aload_n hx hb1 dX2_helpOf_94 rfl (lv_at hl 0 rfl) ?_
        refine hh_getr X h (fj_0 hb) in_X2_helpOf_X2 (kj hb) (by decide) (List.mem_of_getElem? (i := 3) rfl) rfl dX2_helpOf_95 ?_
        refine lv_iload_n hx hb1 dX2_helpOf_98 rfl (lv_at hl 1 rfl) ?_
        obtain ⟨h10, hq⟩ := hq
        refine hh_ald X h (aj_30 hb) h10 dX2_helpOf_99 ?_
        refine lv_aload_n hx hb1 dX2_helpOf_100 rfl (lv_at hl 0 rfl) ?_
        refine lv_iload_n hx hb1 dX2_helpOf_101 rfl (lv_at hl 1 rfl) ?_
        refine hh_kI h (va_runV (As := [.int x1]) (rest := [.ref (ad ((55 + 34 * b) + (x1).toNatClampNeg)), .int ((x4 / (1000 : Int64)).toInt32)]) X.1 (ad_X2_greatest (D := D) l J (b := b) hb x1 σ _ hq) (cwV 1 X.1.2.2.2.2 gX2_helpOf_X2_greatest rfl rfl rfl nd_X2_greatest ⟨Nat.le_of_ble_eq_true rfl, Nat.le_of_ble_eq_true rfl⟩) (hh_preV X h (fj_0 hb) (kj hb) [.int x1]) rfl rfl hl.1 rfl (lv_room (Nat.le_of_ble_eq_true rfl)) dX2_helpOf_102 ⟨Nat.le_of_ble_eq_true rfl, Nat.le_of_ble_eq_true rfl⟩) (fun r11 σ12 H locs hq h => ?_)
        obtain ⟨h13, hq⟩ := hq
        refine hh_ild X h (ar_sh hb h10) h13 dX2_helpOf_105 ?_
        refine lv_isub hx hb1 dX2_helpOf_106 ?_
        exact hh_iret X h hr hlocks hq dX2_helpOf_107
      · have hq := hq.2 c9
        refine lv_lconst (v := (0 : Int64)) hx hb1 dX2_helpOf_22 (by decide) ?_
        refine lv_lstore (lv' := [(7, .long (0 : Int64)), (0, .ref (ad (7 + b))), (1, .int x1), (2, .int x2), (3, .int x3), (4, .long x4), (6, .int x6)]) hx hb1 dX2_helpOf_23 hl (by decide) rfl (fun ls hl => ?_)
        refine lv_iconst (v := (0 : Int32)) hx hb1 dX2_helpOf_25 (by decide) ?_
        refine lv_istore (lv' := [(9, .int (0 : Int32)), (7, .long (0 : Int64)), (0, .ref (ad (7 + b))), (1, .int x1), (2, .int x2), (3, .int x3), (4, .long x4), (6, .int x6)]) hx hb1 dX2_helpOf_26 hl (by decide) rfl (fun ls hl => ?_)
        obtain ⟨n14, hq⟩ := hq
        exact lt_28 x1 x2 x3 x4 x6 (hh_lp2 (wq_X2_helpOf_16 b x1 x2 x3 Q) n) ih n14 (0 : Int64) (0 : Int32) σ _ _ ls hq h (lv_sub hl [2, 3, 4, 5, 6, 7, 1, 0] rfl)
  subst hargs
  refine hh_entry (vs := [.ref (ad (7 + b)), .int x1, .int x2]) (Nat.le_of_ble_eq_true rfl) (fun ls hl => ?_)
  have hl : lv_has ls 10 [(0, .ref (ad (7 + b))), (1, .int x1), (2, .int x2)] := hl
  have hq : wp_X2_helpOf b x1 x2 σ Q := hq
  unfold wp_X2_helpOf at hq
  refine lv_aload_n hx hb1 dX2_helpOf_0 rfl (lv_at hl 0 rfl) ?_
  refine hh_getr X h (fj_2 hb) in_X2_helpOf_X2 (kj hb) (by decide) (List.mem_of_getElem? (i := 1) rfl) rfl dX2_helpOf_1 ?_
  refine hh_getr X h fc_4_3 in_X2_helpOf_X1 kc_4 (by decide) (List.mem_of_getElem? (i := 2) rfl) rfl dX2_helpOf_4 ?_
  refine lv_iload_n hx hb1 dX2_helpOf_7 rfl (lv_at hl 1 rfl) ?_
  obtain ⟨h15, hq⟩ := hq
  refine hh_ild X h ac_22 h15 dX2_helpOf_8 ?_
  refine lv_topi (fun v16 ev16 => ?_)
  have hq := hq v16 ev16
  refine lv_istore_n (lv' := [(3, .int v16), (0, .ref (ad (7 + b))), (1, .int x1), (2, .int x2)]) hx hb1 dX2_helpOf_9 rfl hl (by decide) rfl (fun ls hl => ?_)
  refine lv_lconst (v := (0 : Int64)) hx hb1 dX2_helpOf_10 (by decide) ?_
  refine lv_lstore (lv' := [(4, .long (0 : Int64)), (3, .int v16), (0, .ref (ad (7 + b))), (1, .int x1), (2, .int x2)]) hx hb1 dX2_helpOf_11 hl (by decide) rfl (fun ls hl => ?_)
  refine lv_iconst (v := (0 : Int32)) hx hb1 dX2_helpOf_13 (by decide) ?_
  refine lv_istore (lv' := [(6, .int (0 : Int32)), (4, .long (0 : Int64)), (3, .int v16), (0, .ref (ad (7 + b))), (1, .int x1), (2, .int x2)]) hx hb1 dX2_helpOf_14 hl (by decide) rfl (fun ls hl => ?_)
  obtain ⟨n17, hq⟩ := hq
  exact lt_16 x1 x2 v16 n17 (0 : Int64) (0 : Int32) σ _ _ ls hq h (lv_sub hl [3, 4, 5, 2, 1, 0] rfl)
theorem nd_X2_keepEnds : yX2_keepEnds.cls = RX2 ∧ yX2_keepEnds.cls ≠ "java/lang/invoke/MethodHandle" ∧ yX2_keepEnds.cls ≠ "java/lang/invoke/VarHandle" ∧ (parseMethodDescriptor yX2_keepEnds.desc).map (fun d => d.parameters.length) = some 0 := by decide +kernel
abbrev rm_X2_keepEnds : Room := { frames := 1, cells := 0, slots := 0, locals := 23 }
def wq_X2_keepEnds_2 (b : Nat) (Q : hh_S → Prop) (K2 : Int32 → hh_S → Prop) (x1 : Int32) (σ : hh_S) : Prop := (((hh_I σ 256) ≤ x1 → (Q σ)) ∧ (¬ (hh_I σ 256) ≤ x1 → (wp_X2_greatest b x1 σ (fun (r2 : Int32) (σ3 : hh_S) => (vp_in x1 24 ∧ ∀ σ5 : hh_S, σ5 = hh_sA σ3 (35 + 6 * b) x1 r2 → (K2 (x1 + (1 : Int32)) σ5))))))
def wp_X2_keepEnds (b : Nat) (σ : hh_S) (Q : hh_S → Prop) : Prop := (∃ n : Nat, hh_lp1 (wq_X2_keepEnds_2 b Q) n (0 : Int32) σ)
theorem in_X2_keepEnds_X2 : ∀ w ∈ u_ws RX2 TX2 9, w ∈ wsX2_keepEnds := fun w h => List.mem_cons_of_mem _ (List.mem_append_left _ (List.mem_append_right _ h))
theorem in_X2_keepEnds_X1 : ∀ w ∈ u_ws RX1 TX1 7, w ∈ wsX2_keepEnds := fun w h => List.mem_cons_of_mem _ (List.mem_append_right _ h)
set_option maxHeartbeats 4000000 in
set_option maxRecDepth 100000 in
theorem ad_X2_keepEnds {D : va_G} (l : Launch) {cy : Nat → ClassId} {ad : Nat → Nat} (J : hh_J hc_Y ad) {b : Nat} (hb : b = 0 ∨ b = 1) (σ : hh_S) (Q : hh_S → Prop) (hq : wp_X2_keepEnds b σ Q) : Met l yX2_keepEnds wsX2_keepEnds rm_X2_keepEnds (va_Pc [.ref (ad (7 + b))] (hh_B D hh_cl hc_Y cy ad σ)) (va_Qv Q (hh_B D hh_cl hc_Y cy ad) (hh_A hc_Y ad)) 0 0 (hh_A hc_Y ad) := by
  refine Met.ofW (cc := cX2_keepEnds) (maxL := 2) (ret := none) (by decide) rfl ?_
  intro p e s m args below meth c s₁ B hml hv
  obtain ⟨hargs, hP0, hK0⟩ := hv
  have hr := B.returns
  have hlocks := B.notSynchronized
  have X : hh_X p m c cX2_keepEnds 2 s args wsX2_keepEnds RX2 D hh_cl hc_Y cy ad := ⟨⟨B.exec, B.bytes, hml, findClass_of_methodNamed B.named, atoms_spec (ws := wsX2_keepEnds) B.pre⟩, hK0, J⟩
  have hx := X.1.1
  have hb1 := X.1.2.1
  have h : hh_H D hh_cl hc_Y cy ad s.heap σ s.heap [] := ⟨hP0, va_S.rf⟩
  have lt_2 : ∀ (n : Nat) (x1 : Int32) (σ : hh_S) (H : Heap) (locs : List Loc) (ls : Array Slot), hh_lp1 (wq_X2_keepEnds_2 b Q) n x1 σ → hh_H D hh_cl hc_Y cy ad s.heap σ H locs → lv_has ls 2 [(0, .ref (ad (7 + b))), (1, .int x1)] → W p l e (headSpec wsX2_keepEnds rm_X2_keepEnds).room s m args below meth c H locs 0 0 (MQ below (va_Qv Q (hh_B D hh_cl hc_Y cy ad) (hh_A hc_Y ad)) args s 0 0 (hh_A hc_Y ad)) (F0 m 2 ls []) := by
    intro n
    induction n with
    | zero => intro x1 σ H locs ls hq h hl; exact hq.elim
    | succ n ih =>
      intro x1 σ H locs ls hq h hl
      have hq : wq_X2_keepEnds_2 b Q (hh_lp1 (wq_X2_keepEnds_2 b Q) n) x1 σ := hq
      unfold wq_X2_keepEnds_2 at hq
      refine lv_iload_n hx hb1 dX2_keepEnds_2 rfl (lv_at hl 1 rfl) ?_
      refine lv_aload_n hx hb1 dX2_keepEnds_3 rfl (lv_at hl 0 rfl) ?_
      refine hh_getr X h (fj_2 hb) in_X2_keepEnds_X2 (kj hb) (by decide) (List.mem_of_getElem? (i := 1) rfl) rfl dX2_keepEnds_4 ?_
      refine hh_geti X h (q := 256) fc_4_0 rfl in_X2_keepEnds_X1 kc_4 (by decide) (List.mem_of_getElem? (i := 2) rfl) rfl dX2_keepEnds_7 ?_
      refine lv_icmp_ge (tgt := 30) hx hb1 dX2_keepEnds_10 (by decide) (fun c1 => ?_) (fun c1 => ?_)
      · have hq := hq.1 c1
        exact hh_vret X h hr hlocks hq dX2_keepEnds_30
      · have hq := hq.2 c1
        refine lv_aload_n hx hb1 dX2_keepEnds_13 rfl (lv_at hl 0 rfl) ?_
        refine hh_getr X h (fj_8 hb) in_X2_keepEnds_X2 (kj hb) (by decide) (List.mem_of_getElem? (i := 3) rfl) rfl dX2_keepEnds_14 ?_
        refine lv_iload_n hx hb1 dX2_keepEnds_17 rfl (lv_at hl 1 rfl) ?_
        refine lv_aload_n hx hb1 dX2_keepEnds_18 rfl (lv_at hl 0 rfl) ?_
        refine lv_iload_n hx hb1 dX2_keepEnds_19 rfl (lv_at hl 1 rfl) ?_
        refine hh_kI h (va_runV (As := [.int x1]) (rest := [.int x1, .ref (ad (35 + 6 * b))]) X.1 (ad_X2_greatest (D := D) l J (b := b) hb x1 σ _ hq) (cwV 1 X.1.2.2.2.2 gX2_keepEnds_X2_greatest rfl rfl rfl nd_X2_greatest ⟨Nat.le_of_ble_eq_true rfl, Nat.le_of_ble_eq_true rfl⟩) (hh_preV X h (fj_0 hb) (kj hb) [.int x1]) rfl rfl hl.1 rfl (lv_room (Nat.le_of_ble_eq_true rfl)) dX2_keepEnds_20 ⟨Nat.le_of_ble_eq_true rfl, Nat.le_of_ble_eq_true rfl⟩) (fun r2 σ3 H locs hq h => ?_)
        obtain ⟨h4, hq⟩ := hq
        refine hh_ist X h (aj_35 hb) h4 dX2_keepEnds_23 (fun σ5 H locs eσ5 h => ?_)
        have hq := hq σ5 eσ5
        refine lv_iinc (v := (x1 + (1 : Int32))) (lv' := [(1, .int (x1 + (1 : Int32))), (0, .ref (ad (7 + b)))]) hx hb1 dX2_keepEnds_24 hl (k := 1) rfl rfl (by decide) rfl (fun ls hl => ?_)
        refine lv_goto (tgt := 2) hx hb1 dX2_keepEnds_27 (by decide) ?_
        exact ih (x1 + (1 : Int32)) σ5 _ _ ls hq h (lv_sub hl [1, 0] rfl)
  subst hargs
  refine hh_entry (vs := [.ref (ad (7 + b))]) (Nat.le_of_ble_eq_true rfl) (fun ls hl => ?_)
  have hl : lv_has ls 2 [(0, .ref (ad (7 + b)))] := hl
  have hq : wp_X2_keepEnds b σ Q := hq
  unfold wp_X2_keepEnds at hq
  refine lv_iconst (v := (0 : Int32)) hx hb1 dX2_keepEnds_0 (by decide) ?_
  refine lv_istore_n (lv' := [(1, .int (0 : Int32)), (0, .ref (ad (7 + b)))]) hx hb1 dX2_keepEnds_1 rfl hl (by decide) rfl (fun ls hl => ?_)
  obtain ⟨n6, hq⟩ := hq
  exact lt_2 n6 (0 : Int32) σ _ _ ls hq h (lv_sub hl [1, 0] rfl)
