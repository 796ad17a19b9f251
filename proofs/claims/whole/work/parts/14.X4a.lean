theorem nd_X4_allows : yX4_allows.cls ≠ "java/lang/invoke/MethodHandle" ∧ yX4_allows.cls ≠ "java/lang/invoke/VarHandle" ∧ (parseMethodDescriptor yX4_allows.desc).map (fun d => d.parameters.length) = some 1 := by decide +kernel
abbrev rm_X4_allows : Room := { frames := 0, cells := 0, slots := 0, locals := 0 }
def wp_X4_allows (x0 : Int32) (σ : hh_S) (Q : Int32 → hh_S → Prop) : Prop := ((x0 < (-1000 : Int32) → (Q (0 : Int32) σ)) ∧ (¬ x0 < (-1000 : Int32) → (((1000 : Int32) < x0 → (Q (0 : Int32) σ)) ∧ (¬ (1000 : Int32) < x0 → (Q (1 : Int32) σ)))))
set_option maxHeartbeats 4000000 in
set_option maxRecDepth 100000 in
theorem ad_X4_allows {D : va_G} (l : Launch) {cy : Nat → ClassId} {ad : Nat → Nat} (J : hh_J hc_Y ad) (x0 : Int32) (σ : hh_S) (Q : Int32 → hh_S → Prop) (hq : wp_X4_allows x0 σ Q) : Met l yX4_allows wsX4_allows rm_X4_allows (va_Pc [.int x0] (hh_B D hh_cl hc_Y cy ad σ)) (va_Qi Q (hh_B D hh_cl hc_Y cy ad) (hh_A hc_Y ad)) 0 0 (hh_A hc_Y ad) := by
  refine Met.ofW (cc := cX4_allows) (maxL := 1) (ret := (some .boolean)) (by decide) rfl ?_
  intro p e s m args below meth c s₁ B hml hv
  obtain ⟨hargs, hP0, hK0⟩ := hv
  have hr := B.returns
  have hlocks := B.notSynchronized
  have X : hh_X p m c cX4_allows 1 s args wsX4_allows RX4 D hh_cl hc_Y cy ad := ⟨⟨B.exec, B.bytes, hml, findClass_of_methodNamed B.named, atoms_spec (ws := wsX4_allows) B.pre⟩, hK0, J⟩
  have hx := X.1.1
  have hb1 := X.1.2.1
  have h : hh_H D hh_cl hc_Y cy ad s.heap σ s.heap [] := ⟨hP0, va_S.rf⟩
  subst hargs
  refine hh_entry (vs := [.int x0]) (Nat.le_of_ble_eq_true rfl) (fun ls hl => ?_)
  have hl : lv_has ls 1 [(0, .int x0)] := hl
  have hq : wp_X4_allows x0 σ Q := hq
  unfold wp_X4_allows at hq
  refine lv_iload_n hx hb1 dX4_allows_0 rfl (lv_at hl 0 rfl) ?_
  refine lv_sipush (v := (-1000 : Int32)) hx hb1 dX4_allows_1 (by decide) ?_
  refine lv_icmp_lt (tgt := 18) hx hb1 dX4_allows_4 (by decide) (fun c1 => ?_) (fun c1 => ?_)
  · have hq := hq.1 c1
    refine lv_iconst (v := (0 : Int32)) hx hb1 dX4_allows_18 (by decide) ?_
    exact hh_zret X h hr hlocks rfl hq dX4_allows_19
  · have hq := hq.2 c1
    refine lv_iload_n hx hb1 dX4_allows_7 rfl (lv_at hl 0 rfl) ?_
    refine lv_sipush (v := (1000 : Int32)) hx hb1 dX4_allows_8 (by decide) ?_
    refine lv_icmp_gt (tgt := 18) hx hb1 dX4_allows_11 (by decide) (fun c2 => ?_) (fun c2 => ?_)
    · have hq := hq.1 c2
      refine lv_iconst (v := (0 : Int32)) hx hb1 dX4_allows_18 (by decide) ?_
      exact hh_zret X h hr hlocks rfl hq dX4_allows_19
    · have hq := hq.2 c2
      refine lv_iconst (v := (1 : Int32)) hx hb1 dX4_allows_14 (by decide) ?_
      refine lv_goto (tgt := 19) hx hb1 dX4_allows_15 (by decide) ?_
      exact hh_zret X h hr hlocks rfl hq dX4_allows_19
theorem nd_X4_brings : yX4_brings.cls = RX4 ∧ yX4_brings.cls ≠ "java/lang/invoke/MethodHandle" ∧ yX4_brings.cls ≠ "java/lang/invoke/VarHandle" ∧ (parseMethodDescriptor yX4_brings.desc).map (fun d => d.parameters.length) = some 2 := by decide +kernel
abbrev rm_X4_brings : Room := { frames := 0, cells := 0, slots := 0, locals := 0 }
def wp_X4_brings (x1 : Int32) (x2 : Int32) (σ : hh_S) (Q : Int32 → hh_S → Prop) : Prop := (vp_in x2 21 ∧ (vp_in x2 21 ∧ (Q ((x1 * (hh_rA σ 43 x2)) + (((20 : Int32) - x1) * (hh_rA σ 44 x2))) σ)))
theorem in_X4_brings_X4 : ∀ w ∈ u_ws RX4 TX4 2, w ∈ wsX4_brings := fun w h => List.mem_cons_of_mem _ (List.mem_append_right _ h)
set_option maxHeartbeats 4000000 in
set_option maxRecDepth 100000 in
theorem ad_X4_brings {D : va_G} (l : Launch) {cy : Nat → ClassId} {ad : Nat → Nat} (J : hh_J hc_Y ad) (x1 : Int32) (x2 : Int32) (σ : hh_S) (Q : Int32 → hh_S → Prop) (hq : wp_X4_brings x1 x2 σ Q) : Met l yX4_brings wsX4_brings rm_X4_brings (va_Pc [.ref (ad 10), .int x1, .int x2] (hh_B D hh_cl hc_Y cy ad σ)) (va_Qi Q (hh_B D hh_cl hc_Y cy ad) (hh_A hc_Y ad)) 0 0 (hh_A hc_Y ad) := by
  refine Met.ofW (cc := cX4_brings) (maxL := 3) (ret := (some .int)) (by decide) rfl ?_
  intro p e s m args below meth c s₁ B hml hv
  obtain ⟨hargs, hP0, hK0⟩ := hv
  have hr := B.returns
  have hlocks := B.notSynchronized
  have X : hh_X p m c cX4_brings 3 s args wsX4_brings RX4 D hh_cl hc_Y cy ad := ⟨⟨B.exec, B.bytes, hml, findClass_of_methodNamed B.named, atoms_spec (ws := wsX4_brings) B.pre⟩, hK0, J⟩
  have hx := X.1.1
  have hb1 := X.1.2.1
  have h : hh_H D hh_cl hc_Y cy ad s.heap σ s.heap [] := ⟨hP0, va_S.rf⟩
  subst hargs
  refine hh_entry (vs := [.ref (ad 10), .int x1, .int x2]) (Nat.le_of_ble_eq_true rfl) (fun ls hl => ?_)
  have hl : lv_has ls 3 [(0, .ref (ad 10)), (1, .int x1), (2, .int x2)] := hl
  have hq : wp_X4_brings x1 x2 σ Q := hq
  unfold wp_X4_brings at hq
  refine lv_iload_n hx hb1 dX4_brings_0 rfl (lv_at hl 1 rfl) ?_
  refine lv_aload_n hx hb1 dX4_brings_1 rfl (lv_at hl 0 rfl) ?_
  refine hh_getr X h fc_10_0 in_X4_brings_X4 kc_10 (by decide) (List.mem_of_getElem? (i := 1) rfl) rfl dX4_brings_2 ?_
  refine lv_iload_n hx hb1 dX4_brings_5 rfl (lv_at hl 2 rfl) ?_
  obtain ⟨h1, hq⟩ := hq
  refine hh_ild X h ac_43 h1 dX4_brings_6 ?_
  refine lv_imul hx hb1 dX4_brings_7 ?_
  refine lv_bipush (v := (20 : Int32)) hx hb1 dX4_brings_8 (by decide) ?_
  refine lv_iload_n hx hb1 dX4_brings_10 rfl (lv_at hl 1 rfl) ?_
  refine lv_isub hx hb1 dX4_brings_11 ?_
  refine lv_aload_n hx hb1 dX4_brings_12 rfl (lv_at hl 0 rfl) ?_
  refine hh_getr X h fc_10_1 in_X4_brings_X4 kc_10 (by decide) (List.mem_of_getElem? (i := 2) rfl) rfl dX4_brings_13 ?_
  refine lv_iload_n hx hb1 dX4_brings_16 rfl (lv_at hl 2 rfl) ?_
  obtain ⟨h2, hq⟩ := hq
  refine hh_ild X h ac_44 h2 dX4_brings_17 ?_
  refine lv_imul hx hb1 dX4_brings_18 ?_
  refine lv_iadd hx hb1 dX4_brings_19 ?_
  exact hh_iret X h hr hlocks hq dX4_brings_20
theorem nd_X4_bestSaying : yX4_bestSaying.cls = RX4 ∧ yX4_bestSaying.cls ≠ "java/lang/invoke/MethodHandle" ∧ yX4_bestSaying.cls ≠ "java/lang/invoke/VarHandle" ∧ (parseMethodDescriptor yX4_bestSaying.desc).map (fun d => d.parameters.length) = some 1 := by decide +kernel
abbrev rm_X4_bestSaying : Room := { frames := 1, cells := 0, slots := 0, locals := 22 }
def wq_X4_bestSaying_4 (x1 : Int32) (Q : Int32 → hh_S → Prop) (K4 : Int32 → Int32 → hh_S → Prop) (x2 : Int32) (x3 : Int32) (σ : hh_S) : Prop := (((20 : Int32) < x3 → (Q x2 σ)) ∧ (¬ (20 : Int32) < x3 → (wp_X4_brings x1 x3 σ (fun (r2 : Int32) (σ3 : hh_S) => (wp_X4_brings x1 x2 σ3 (fun (r4 : Int32) (σ5 : hh_S) => ((r2 ≤ r4 → (K4 x2 (x3 + (1 : Int32)) σ5)) ∧ (¬ r2 ≤ r4 → (K4 x3 (x3 + (1 : Int32)) σ5)))))))))
def wp_X4_bestSaying (x1 : Int32) (σ : hh_S) (Q : Int32 → hh_S → Prop) : Prop := (∃ n : Nat, hh_lp2 (wq_X4_bestSaying_4 x1 Q) n (0 : Int32) (1 : Int32) σ)
theorem in_X4_bestSaying_X4 : ∀ w ∈ u_ws RX4 TX4 2, w ∈ wsX4_bestSaying := fun w h => List.mem_cons_of_mem _ (List.mem_append_right _ h)
set_option maxHeartbeats 4000000 in
set_option maxRecDepth 100000 in
theorem ad_X4_bestSaying {D : va_G} (l : Launch) {cy : Nat → ClassId} {ad : Nat → Nat} (J : hh_J hc_Y ad) (x1 : Int32) (σ : hh_S) (Q : Int32 → hh_S → Prop) (hq : wp_X4_bestSaying x1 σ Q) : Met l yX4_bestSaying wsX4_bestSaying rm_X4_bestSaying (va_Pc [.ref (ad 10), .int x1] (hh_B D hh_cl hc_Y cy ad σ)) (va_Qi Q (hh_B D hh_cl hc_Y cy ad) (hh_A hc_Y ad)) 0 0 (hh_A hc_Y ad) := by
  refine Met.ofW (cc := cX4_bestSaying) (maxL := 4) (ret := (some .int)) (by decide) rfl ?_
  intro p e s m args below meth c s₁ B hml hv
  obtain ⟨hargs, hP0, hK0⟩ := hv
  have hr := B.returns
  have hlocks := B.notSynchronized
  have X : hh_X p m c cX4_bestSaying 4 s args wsX4_bestSaying RX4 D hh_cl hc_Y cy ad := ⟨⟨B.exec, B.bytes, hml, findClass_of_methodNamed B.named, atoms_spec (ws := wsX4_bestSaying) B.pre⟩, hK0, J⟩
  have hx := X.1.1
  have hb1 := X.1.2.1
  have h : hh_H D hh_cl hc_Y cy ad s.heap σ s.heap [] := ⟨hP0, va_S.rf⟩
  have lt_4 : ∀ (x1 : Int32) (n : Nat) (x2 : Int32) (x3 : Int32) (σ : hh_S) (H : Heap) (locs : List Loc) (ls : Array Slot), hh_lp2 (wq_X4_bestSaying_4 x1 Q) n x2 x3 σ → hh_H D hh_cl hc_Y cy ad s.heap σ H locs → lv_has ls 4 [(0, .ref (ad 10)), (1, .int x1), (2, .int x2), (3, .int x3)] → W p l e (headSpec wsX4_bestSaying rm_X4_bestSaying).room s m args below meth c H locs 0 0 (MQ below (va_Qi Q (hh_B D hh_cl hc_Y cy ad) (hh_A hc_Y ad)) args s 0 0 (hh_A hc_Y ad)) (F0 m 4 ls []) := by
    intro x1 n
    induction n with
    | zero => intro x2 x3 σ H locs ls hq h hl; exact hq.elim
    | succ n ih =>
      intro x2 x3 σ H locs ls hq h hl
      have hq : wq_X4_bestSaying_4 x1 Q (hh_lp2 (wq_X4_bestSaying_4 x1 Q) n) x2 x3 σ := hq
      unfold wq_X4_bestSaying_4 at hq
      refine lv_iload_n hx hb1 dX4_bestSaying_4 rfl (lv_at hl 3 rfl) ?_
      refine lv_bipush (v := (20 : Int32)) hx hb1 dX4_bestSaying_5 (by decide) ?_
      refine lv_icmp_gt (tgt := 33) hx hb1 dX4_bestSaying_7 (by decide) (fun c1 => ?_) (fun c1 => ?_)
      · have hq := hq.1 c1
        refine lv_iload_n hx hb1 dX4_bestSaying_33 rfl (lv_at hl 2 rfl) ?_
        exact hh_iret X h hr hlocks hq dX4_bestSaying_34
      · have hq := hq.2 c1
        refine lv_aload_n hx hb1 dX4_bestSaying_10 rfl (lv_at hl 0 rfl) ?_
        refine lv_iload_n hx hb1 dX4_bestSaying_11 rfl (lv_at hl 1 rfl) ?_
        refine lv_iload_n hx hb1 dX4_bestSaying_12 rfl (lv_at hl 3 rfl) ?_
        refine hh_kI h (va_runV (As := [.int x1, .int x3]) (rest := []) X.1 (ad_X4_brings (D := D) l J x1 x3 σ _ hq) (cwV 2 X.1.2.2.2.2 gX4_bestSaying_X4_brings rfl rfl rfl nd_X4_brings ⟨Nat.le_of_ble_eq_true rfl, Nat.le_of_ble_eq_true rfl⟩) (hh_preV X h fc_10_0 kc_10 [.int x1, .int x3]) rfl rfl hl.1 rfl (lv_room (Nat.le_of_ble_eq_true rfl)) dX4_bestSaying_13 ⟨Nat.le_of_ble_eq_true rfl, Nat.le_of_ble_eq_true rfl⟩) (fun r2 σ3 H locs hq h => ?_)
        refine lv_aload_n hx hb1 dX4_bestSaying_16 rfl (lv_at hl 0 rfl) ?_
        refine lv_iload_n hx hb1 dX4_bestSaying_17 rfl (lv_at hl 1 rfl) ?_
        refine lv_iload_n hx hb1 dX4_bestSaying_18 rfl (lv_at hl 2 rfl) ?_
        refine hh_kI h (va_runV (As := [.int x1, .int x2]) (rest := [.int r2]) X.1 (ad_X4_brings (D := D) l J x1 x2 σ3 _ hq) (cwV 2 X.1.2.2.2.2 gX4_bestSaying_X4_brings rfl rfl rfl nd_X4_brings ⟨Nat.le_of_ble_eq_true rfl, Nat.le_of_ble_eq_true rfl⟩) (hh_preV X h fc_10_0 kc_10 [.int x1, .int x2]) rfl rfl hl.1 rfl (lv_room (Nat.le_of_ble_eq_true rfl)) dX4_bestSaying_19 ⟨Nat.le_of_ble_eq_true rfl, Nat.le_of_ble_eq_true rfl⟩) (fun r4 σ5 H locs hq h => ?_)
        refine lv_icmp_le (tgt := 27) hx hb1 dX4_bestSaying_22 (by decide) (fun c6 => ?_) (fun c6 => ?_)
        · have hq := hq.1 c6
          refine lv_iinc (v := (x3 + (1 : Int32))) (lv' := [(3, .int (x3 + (1 : Int32))), (0, .ref (ad 10)), (1, .int x1), (2, .int x2)]) hx hb1 dX4_bestSaying_27 hl (k := 3) rfl rfl (by decide) rfl (fun ls hl => ?_)
          refine lv_goto (tgt := 4) hx hb1 dX4_bestSaying_30 (by decide) ?_
          exact ih x2 (x3 + (1 : Int32)) σ5 _ _ ls hq h (lv_sub hl [1, 2, 3, 0] rfl)
        · have hq := hq.2 c6
          refine lv_iload_n hx hb1 dX4_bestSaying_25 rfl (lv_at hl 3 rfl) ?_
          refine lv_istore_n (lv' := [(2, .int x3), (0, .ref (ad 10)), (1, .int x1), (3, .int x3)]) hx hb1 dX4_bestSaying_26 rfl hl (by decide) rfl (fun ls hl => ?_)
          refine lv_iinc (v := (x3 + (1 : Int32))) (lv' := [(3, .int (x3 + (1 : Int32))), (2, .int x3), (0, .ref (ad 10)), (1, .int x1)]) hx hb1 dX4_bestSaying_27 hl (k := 3) rfl rfl (by decide) rfl (fun ls hl => ?_)
          refine lv_goto (tgt := 4) hx hb1 dX4_bestSaying_30 (by decide) ?_
          exact ih x3 (x3 + (1 : Int32)) σ5 _ _ ls hq h (lv_sub hl [2, 3, 1, 0] rfl)
  subst hargs
  refine hh_entry (vs := [.ref (ad 10), .int x1]) (Nat.le_of_ble_eq_true rfl) (fun ls hl => ?_)
  have hl : lv_has ls 4 [(0, .ref (ad 10)), (1, .int x1)] := hl
  have hq : wp_X4_bestSaying x1 σ Q := hq
  unfold wp_X4_bestSaying at hq
  refine lv_iconst (v := (0 : Int32)) hx hb1 dX4_bestSaying_0 (by decide) ?_
  refine lv_istore_n (lv' := [(2, .int (0 : Int32)), (0, .ref (ad 10)), (1, .int x1)]) hx hb1 dX4_bestSaying_1 rfl hl (by decide) rfl (fun ls hl => ?_)
  refine lv_iconst (v := (1 : Int32)) hx hb1 dX4_bestSaying_2 (by decide) ?_
  refine lv_istore_n (lv' := [(3, .int (1 : Int32)), (2, .int (0 : Int32)), (0, .ref (ad 10)), (1, .int x1)]) hx hb1 dX4_bestSaying_3 rfl hl (by decide) rfl (fun ls hl => ?_)
  obtain ⟨n7, hq⟩ := hq
  exact lt_4 x1 n7 (0 : Int32) (1 : Int32) σ _ _ ls hq h (lv_sub hl [2, 3, 1, 0] rfl)
theorem nd_X4_firstUntrue : yX4_firstUntrue.cls = RX4 ∧ yX4_firstUntrue.cls ≠ "java/lang/invoke/MethodHandle" ∧ yX4_firstUntrue.cls ≠ "java/lang/invoke/VarHandle" ∧ (parseMethodDescriptor yX4_firstUntrue.desc).map (fun d => d.parameters.length) = some 0 := by decide +kernel
abbrev rm_X4_firstUntrue : Room := { frames := 2, cells := 0, slots := 0, locals := 45 }
def wq_X4_firstUntrue_2 (Q : Int32 → hh_S → Prop) (K2 : Int32 → hh_S → Prop) (x1 : Int32) (σ : hh_S) : Prop := (((20 : Int32) < x1 → (Q (-6 : Int32) σ)) ∧ (¬ (20 : Int32) < x1 → (wp_X4_bestSaying x1 σ (fun (r2 : Int32) (σ3 : hh_S) => (wp_X4_brings x1 r2 σ3 (fun (r4 : Int32) (σ5 : hh_S) => (wp_X4_brings x1 x1 σ5 (fun (r6 : Int32) (σ7 : hh_S) => ((r4 ≤ r6 → (K2 (x1 + (1 : Int32)) σ7)) ∧ (¬ r4 ≤ r6 → (Q x1 σ7)))))))))))
def wp_X4_firstUntrue (σ : hh_S) (Q : Int32 → hh_S → Prop) : Prop := (∃ n : Nat, hh_lp1 (wq_X4_firstUntrue_2 Q) n (0 : Int32) σ)
theorem in_X4_firstUntrue_X4 : ∀ w ∈ u_ws RX4 TX4 2, w ∈ wsX4_firstUntrue := fun w h => List.mem_cons_of_mem _ (List.mem_append_right _ h)
set_option maxHeartbeats 4000000 in
set_option maxRecDepth 100000 in
theorem ad_X4_firstUntrue {D : va_G} (l : Launch) {cy : Nat → ClassId} {ad : Nat → Nat} (J : hh_J hc_Y ad) (σ : hh_S) (Q : Int32 → hh_S → Prop) (hq : wp_X4_firstUntrue σ Q) : Met l yX4_firstUntrue wsX4_firstUntrue rm_X4_firstUntrue (va_Pc [.ref (ad 10)] (hh_B D hh_cl hc_Y cy ad σ)) (va_Qi Q (hh_B D hh_cl hc_Y cy ad) (hh_A hc_Y ad)) 0 0 (hh_A hc_Y ad) := by
  refine Met.ofW (cc := cX4_firstUntrue) (maxL := 2) (ret := (some .int)) (by decide) rfl ?_
  intro p e s m args below meth c s₁ B hml hv
  obtain ⟨hargs, hP0, hK0⟩ := hv
  have hr := B.returns
  have hlocks := B.notSynchronized
  have X : hh_X p m c cX4_firstUntrue 2 s args wsX4_firstUntrue RX4 D hh_cl hc_Y cy ad := ⟨⟨B.exec, B.bytes, hml, findClass_of_methodNamed B.named, atoms_spec (ws := wsX4_firstUntrue) B.pre⟩, hK0, J⟩
  have hx := X.1.1
  have hb1 := X.1.2.1
  have h : hh_H D hh_cl hc_Y cy ad s.heap σ s.heap [] := ⟨hP0, va_S.rf⟩
  have lt_2 : ∀ (n : Nat) (x1 : Int32) (σ : hh_S) (H : Heap) (locs : List Loc) (ls : Array Slot), hh_lp1 (wq_X4_firstUntrue_2 Q) n x1 σ → hh_H D hh_cl hc_Y cy ad s.heap σ H locs → lv_has ls 2 [(0, .ref (ad 10)), (1, .int x1)] → W p l e (headSpec wsX4_firstUntrue rm_X4_firstUntrue).room s m args below meth c H locs 0 0 (MQ below (va_Qi Q (hh_B D hh_cl hc_Y cy ad) (hh_A hc_Y ad)) args s 0 0 (hh_A hc_Y ad)) (F0 m 2 ls []) := by
    intro n
    induction n with
    | zero => intro x1 σ H locs ls hq h hl; exact hq.elim
    | succ n ih =>
      intro x1 σ H locs ls hq h hl
      have hq : wq_X4_firstUntrue_2 Q (hh_lp1 (wq_X4_firstUntrue_2 Q) n) x1 σ := hq
      unfold wq_X4_firstUntrue_2 at hq
      refine lv_iload_n hx hb1 dX4_firstUntrue_2 rfl (lv_at hl 1 rfl) ?_
      refine lv_bipush (v := (20 : Int32)) hx hb1 dX4_firstUntrue_3 (by decide) ?_
      refine lv_icmp_gt (tgt := 35) hx hb1 dX4_firstUntrue_5 (by decide) (fun c1 => ?_) (fun c1 => ?_)
      · have hq := hq.1 c1
        refine lv_bipush (v := (-6 : Int32)) hx hb1 dX4_firstUntrue_35 (by decide) ?_
        exact hh_iret X h hr hlocks hq dX4_firstUntrue_37
      · have hq := hq.2 c1
        refine lv_aload_n hx hb1 dX4_firstUntrue_8 rfl (lv_at hl 0 rfl) ?_
        refine lv_iload_n hx hb1 dX4_firstUntrue_9 rfl (lv_at hl 1 rfl) ?_
        refine lv_aload_n hx hb1 dX4_firstUntrue_10 rfl (lv_at hl 0 rfl) ?_
        refine lv_iload_n hx hb1 dX4_firstUntrue_11 rfl (lv_at hl 1 rfl) ?_
        refine hh_kI h (va_runV (As := [.int x1]) (rest := [.int x1, .ref (ad 10)]) X.1 (ad_X4_bestSaying (D := D) l J x1 σ _ hq) (cwV 1 X.1.2.2.2.2 gX4_firstUntrue_X4_bestSaying rfl rfl rfl nd_X4_bestSaying ⟨Nat.le_of_ble_eq_true rfl, Nat.le_of_ble_eq_true rfl⟩) (hh_preV X h fc_10_0 kc_10 [.int x1]) rfl rfl hl.1 rfl (lv_room (Nat.le_of_ble_eq_true rfl)) dX4_firstUntrue_12 ⟨Nat.le_of_ble_eq_true rfl, Nat.le_of_ble_eq_true rfl⟩) (fun r2 σ3 H locs hq h => ?_)
        refine hh_kI h (va_runV (As := [.int x1, .int r2]) (rest := []) X.1 (ad_X4_brings (D := D) l J x1 r2 σ3 _ hq) (cwV 2 X.1.2.2.2.2 gX4_firstUntrue_X4_brings rfl rfl rfl nd_X4_brings ⟨Nat.le_of_ble_eq_true rfl, Nat.le_of_ble_eq_true rfl⟩) (hh_preV X h fc_10_0 kc_10 [.int x1, .int r2]) rfl rfl hl.1 rfl (lv_room (Nat.le_of_ble_eq_true rfl)) dX4_firstUntrue_15 ⟨Nat.le_of_ble_eq_true rfl, Nat.le_of_ble_eq_true rfl⟩) (fun r4 σ5 H locs hq h => ?_)
        refine lv_aload_n hx hb1 dX4_firstUntrue_18 rfl (lv_at hl 0 rfl) ?_
        refine lv_iload_n hx hb1 dX4_firstUntrue_19 rfl (lv_at hl 1 rfl) ?_
        refine lv_iload_n hx hb1 dX4_firstUntrue_20 rfl (lv_at hl 1 rfl) ?_
        refine hh_kI h (va_runV (As := [.int x1, .int x1]) (rest := [.int r4]) X.1 (ad_X4_brings (D := D) l J x1 x1 σ5 _ hq) (cwV 2 X.1.2.2.2.2 gX4_firstUntrue_X4_brings rfl rfl rfl nd_X4_brings ⟨Nat.le_of_ble_eq_true rfl, Nat.le_of_ble_eq_true rfl⟩) (hh_preV X h fc_10_0 kc_10 [.int x1, .int x1]) rfl rfl hl.1 rfl (lv_room (Nat.le_of_ble_eq_true rfl)) dX4_firstUntrue_21 ⟨Nat.le_of_ble_eq_true rfl, Nat.le_of_ble_eq_true rfl⟩) (fun r6 σ7 H locs hq h => ?_)
        refine lv_icmp_le (tgt := 29) hx hb1 dX4_firstUntrue_24 (by decide) (fun c8 => ?_) (fun c8 => ?_)
        · have hq := hq.1 c8
          refine lv_iinc (v := (x1 + (1 : Int32))) (lv' := [(1, .int (x1 + (1 : Int32))), (0, .ref (ad 10))]) hx hb1 dX4_firstUntrue_29 hl (k := 1) rfl rfl (by decide) rfl (fun ls hl => ?_)
          refine lv_goto (tgt := 2) hx hb1 dX4_firstUntrue_32 (by decide) ?_
          exact ih (x1 + (1 : Int32)) σ7 _ _ ls hq h (lv_sub hl [1, 0] rfl)
        · have hq := hq.2 c8
          refine lv_iload_n hx hb1 dX4_firstUntrue_27 rfl (lv_at hl 1 rfl) ?_
          exact hh_iret X h hr hlocks hq dX4_firstUntrue_28
  subst hargs
  refine hh_entry (vs := [.ref (ad 10)]) (Nat.le_of_ble_eq_true rfl) (fun ls hl => ?_)
  have hl : lv_has ls 2 [(0, .ref (ad 10))] := hl
  have hq : wp_X4_firstUntrue σ Q := hq
  unfold wp_X4_firstUntrue at hq
  refine lv_iconst (v := (0 : Int32)) hx hb1 dX4_firstUntrue_0 (by decide) ?_
  refine lv_istore_n (lv' := [(1, .int (0 : Int32)), (0, .ref (ad 10))]) hx hb1 dX4_firstUntrue_1 rfl hl (by decide) rfl (fun ls hl => ?_)
  obtain ⟨n9, hq⟩ := hq
  exact lt_2 n9 (0 : Int32) σ _ _ ls hq h (lv_sub hl [1, 0] rfl)
