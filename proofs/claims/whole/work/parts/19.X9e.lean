theorem nd_X9_choose : yX9_choose.cls ≠ "java/lang/invoke/MethodHandle" ∧ yX9_choose.cls ≠ "java/lang/invoke/VarHandle" ∧ (parseMethodDescriptor yX9_choose.desc).map (fun d => d.parameters.length) = some 2 := by decide +kernel
abbrev rm_X9_choose : Room := { frames := 0, cells := 0, slots := 0, locals := 0 }
def wq_X9_choose_18 (x0 : Int32) (x1 : Int32) (Q : Int64 → hh_S → Prop) (K18 : Int64 → Int32 → hh_S → Prop) (x2 : Int64) (x4 : Int32) (σ : hh_S) : Prop := ((x1 ≤ x4 → (Q x2 σ)) ∧ (¬ x1 ≤ x4 → (((lg_cmp x2 (0 : Int64)) ≤ 0 → (Q x2 σ)) ∧ (¬ (lg_cmp x2 (0 : Int64)) ≤ 0 → ((¬ ((x4 + (1 : Int32)).toInt64) = 0) ∧ (∀ v4 : Int64, v4 = ((x2 * ((x0 - x4).toInt64)) / ((x4 + (1 : Int32)).toInt64)) → (K18 v4 (x4 + (1 : Int32)) σ)))))))
def wp_X9_choose (x0 : Int32) (x1 : Int32) (σ : hh_S) (Q : Int64 → hh_S → Prop) : Prop := ((x1 < 0 → (∃ n : Nat, hh_lp2 (wq_X9_choose_18 x0 x1 Q) n (0 : Int64) (0 : Int32) σ)) ∧ (¬ x1 < 0 → ((x1 ≤ x0 → (∃ n : Nat, hh_lp2 (wq_X9_choose_18 x0 x1 Q) n (1 : Int64) (0 : Int32) σ)) ∧ (¬ x1 ≤ x0 → (∃ n : Nat, hh_lp2 (wq_X9_choose_18 x0 x1 Q) n (0 : Int64) (0 : Int32) σ)))))
set_option maxHeartbeats 4000000 in
set_option maxRecDepth 100000 in
theorem ad_X9_choose {D : va_G} (l : Launch) {cy : Nat → ClassId} {ad : Nat → Nat} (J : hh_J hm_Y ad) (x0 : Int32) (x1 : Int32) (σ : hh_S) (Q : Int64 → hh_S → Prop) (hq : wp_X9_choose x0 x1 σ Q) : Met l yX9_choose wsX9_choose rm_X9_choose (va_Pc [.int x0, .int x1] (hh_B D hh_cl hm_Y cy ad σ)) (va_Ql Q (hh_B D hh_cl hm_Y cy ad) (hh_A hm_Y ad)) 0 0 (hh_A hm_Y ad) := by
  refine Met.ofW (cc := cX9_choose) (maxL := 5) (ret := (some .long)) (by decide) rfl ?_
  intro p e s m args below meth c s₁ B hml hv
  obtain ⟨hargs, hP0, hK0⟩ := hv
  have hr := B.returns
  have hlocks := B.notSynchronized
  have X : hh_X p m c cX9_choose 5 s args wsX9_choose RX9 D hh_cl hm_Y cy ad := ⟨⟨B.exec, B.bytes, hml, findClass_of_methodNamed B.named, atoms_spec (ws := wsX9_choose) B.pre⟩, hK0, J⟩
  have hx := X.1.1
  have hb1 := X.1.2.1
  have h : hh_H D hh_cl hm_Y cy ad s.heap σ s.heap [] := ⟨hP0, va_S.rf⟩
  have lt_18 : ∀ (x0 : Int32) (x1 : Int32) (n : Nat) (x2 : Int64) (x4 : Int32) (σ : hh_S) (H : Heap) (locs : List Loc) (ls : Array Slot), hh_lp2 (wq_X9_choose_18 x0 x1 Q) n x2 x4 σ → hh_H D hh_cl hm_Y cy ad s.heap σ H locs → lv_has ls 5 [(0, .int x0), (1, .int x1), (2, .long x2), (4, .int x4)] → W p l e (headSpec wsX9_choose rm_X9_choose).room s m args below meth c H locs 0 0 (MQ below (va_Ql Q (hh_B D hh_cl hm_Y cy ad) (hh_A hm_Y ad)) args s 0 0 (hh_A hm_Y ad)) (F0 m 18 ls []) := by
    intro x0 x1 n
    induction n with
    | zero => intro x2 x4 σ H locs ls hq h hl; exact hq.elim
    | succ n ih =>
      intro x2 x4 σ H locs ls hq h hl
      have hq : wq_X9_choose_18 x0 x1 Q (hh_lp2 (wq_X9_choose_18 x0 x1 Q) n) x2 x4 σ := hq
      unfold wq_X9_choose_18 at hq
      refine lv_iload hx hb1 dX9_choose_18 (lv_at hl 3 rfl) ?_
      refine lv_iload_n hx hb1 dX9_choose_20 rfl (lv_at hl 1 rfl) ?_
      refine lv_icmp_ge (tgt := 50) hx hb1 dX9_choose_21 (by decide) (fun c1 => ?_) (fun c1 => ?_)
      · have hq := hq.1 c1
        refine lv_lload_n hx hb1 dX9_choose_50 rfl (lv_at hl 2 rfl) ?_
        exact hh_lret X h hr hlocks hq dX9_choose_51
      · have hq := hq.2 c1
        refine lv_lload_n hx hb1 dX9_choose_24 rfl (lv_at hl 2 rfl) ?_
        refine lv_lconst (v := (0 : Int64)) hx hb1 dX9_choose_25 (by decide) ?_
        refine W.lcmp hx hb1 dX9_choose_26 ?_
        refine lv_if_le (tgt := 50) hx hb1 dX9_choose_27 (by decide) (fun c2 => ?_) (fun c2 => ?_)
        · have hq := hq.1 c2
          refine lv_lload_n hx hb1 dX9_choose_50 rfl (lv_at hl 2 rfl) ?_
          exact hh_lret X h hr hlocks hq dX9_choose_51
        · have hq := hq.2 c2
          refine lv_lload_n hx hb1 dX9_choose_30 rfl (lv_at hl 2 rfl) ?_
          refine lv_iload_n hx hb1 dX9_choose_31 rfl (lv_at hl 0 rfl) ?_
          refine lv_iload hx hb1 dX9_choose_32 (lv_at hl 3 rfl) ?_
          refine lv_isub hx hb1 dX9_choose_34 ?_
          refine lv_i2l (v := ((x0 - x4)).toInt64) hx hb1 dX9_choose_35 rfl ?_
          refine lv_lmul hx hb1 dX9_choose_36 ?_
          refine lv_iload hx hb1 dX9_choose_37 (lv_at hl 3 rfl) ?_
          refine lv_iconst (v := (1 : Int32)) hx hb1 dX9_choose_39 (by decide) ?_
          refine lv_iadd hx hb1 dX9_choose_40 ?_
          refine lv_i2l (v := ((x4 + (1 : Int32))).toInt64) hx hb1 dX9_choose_41 rfl ?_
          obtain ⟨h3, hq⟩ := hq
          refine lv_ldiv hx hb1 dX9_choose_42 h3 ?_
          refine lv_topl (fun v4 ev4 => ?_)
          have hq := hq v4 ev4
          refine lv_lstore_n (lv' := [(2, .long v4), (0, .int x0), (1, .int x1), (4, .int x4)]) hx hb1 dX9_choose_43 rfl hl (by decide) rfl (fun ls hl => ?_)
          refine lv_iinc (v := (x4 + (1 : Int32))) (lv' := [(4, .int (x4 + (1 : Int32))), (2, .long v4), (0, .int x0), (1, .int x1)]) hx hb1 dX9_choose_44 hl (k := 3) rfl rfl (by decide) rfl (fun ls hl => ?_)
          refine lv_goto (tgt := 18) hx hb1 dX9_choose_47 (by decide) ?_
          exact ih v4 (x4 + (1 : Int32)) σ _ _ ls hq h (lv_sub hl [2, 3, 1, 0] rfl)
  subst hargs
  refine hh_entry (vs := [.int x0, .int x1]) (Nat.le_of_ble_eq_true rfl) (fun ls hl => ?_)
  have hl : lv_has ls 5 [(0, .int x0), (1, .int x1)] := hl
  have hq : wp_X9_choose x0 x1 σ Q := hq
  unfold wp_X9_choose at hq
  refine lv_iload_n hx hb1 dX9_choose_0 rfl (lv_at hl 1 rfl) ?_
  refine lv_if_lt (tgt := 9) hx hb1 dX9_choose_1 (by decide) (fun c5 => ?_) (fun c5 => ?_)
  · have hq := hq.1 c5
    refine lv_lconst (v := (0 : Int64)) hx hb1 dX9_choose_9 (by decide) ?_
    refine lv_goto (tgt := 14) hx hb1 dX9_choose_10 (by decide) ?_
    refine lv_lstore_n (lv' := [(2, .long (0 : Int64)), (0, .int x0), (1, .int x1)]) hx hb1 dX9_choose_14 rfl hl (by decide) rfl (fun ls hl => ?_)
    refine lv_iconst (v := (0 : Int32)) hx hb1 dX9_choose_15 (by decide) ?_
    refine lv_istore (lv' := [(4, .int (0 : Int32)), (2, .long (0 : Int64)), (0, .int x0), (1, .int x1)]) hx hb1 dX9_choose_16 hl (by decide) rfl (fun ls hl => ?_)
    obtain ⟨n6, hq⟩ := hq
    exact lt_18 x0 x1 n6 (0 : Int64) (0 : Int32) σ _ _ ls hq h (lv_sub hl [2, 3, 1, 0] rfl)
  · have hq := hq.2 c5
    refine lv_iload_n hx hb1 dX9_choose_4 rfl (lv_at hl 1 rfl) ?_
    refine lv_iload_n hx hb1 dX9_choose_5 rfl (lv_at hl 0 rfl) ?_
    refine lv_icmp_le (tgt := 13) hx hb1 dX9_choose_6 (by decide) (fun c7 => ?_) (fun c7 => ?_)
    · have hq := hq.1 c7
      refine lv_lconst (v := (1 : Int64)) hx hb1 dX9_choose_13 (by decide) ?_
      refine lv_lstore_n (lv' := [(2, .long (1 : Int64)), (0, .int x0), (1, .int x1)]) hx hb1 dX9_choose_14 rfl hl (by decide) rfl (fun ls hl => ?_)
      refine lv_iconst (v := (0 : Int32)) hx hb1 dX9_choose_15 (by decide) ?_
      refine lv_istore (lv' := [(4, .int (0 : Int32)), (2, .long (1 : Int64)), (0, .int x0), (1, .int x1)]) hx hb1 dX9_choose_16 hl (by decide) rfl (fun ls hl => ?_)
      obtain ⟨n8, hq⟩ := hq
      exact lt_18 x0 x1 n8 (1 : Int64) (0 : Int32) σ _ _ ls hq h (lv_sub hl [2, 3, 1, 0] rfl)
    · have hq := hq.2 c7
      refine lv_lconst (v := (0 : Int64)) hx hb1 dX9_choose_9 (by decide) ?_
      refine lv_goto (tgt := 14) hx hb1 dX9_choose_10 (by decide) ?_
      refine lv_lstore_n (lv' := [(2, .long (0 : Int64)), (0, .int x0), (1, .int x1)]) hx hb1 dX9_choose_14 rfl hl (by decide) rfl (fun ls hl => ?_)
      refine lv_iconst (v := (0 : Int32)) hx hb1 dX9_choose_15 (by decide) ?_
      refine lv_istore (lv' := [(4, .int (0 : Int32)), (2, .long (0 : Int64)), (0, .int x0), (1, .int x1)]) hx hb1 dX9_choose_16 hl (by decide) rfl (fun ls hl => ?_)
      obtain ⟨n9, hq⟩ := hq
      exact lt_18 x0 x1 n9 (0 : Int64) (0 : Int32) σ _ _ ls hq h (lv_sub hl [2, 3, 1, 0] rfl)
theorem nd_X9_better : yX9_better.cls = RX9 ∧ yX9_better.cls ≠ "java/lang/invoke/MethodHandle" ∧ yX9_better.cls ≠ "java/lang/invoke/VarHandle" ∧ (parseMethodDescriptor yX9_better.desc).map (fun d => d.parameters.length) = some 1 := by decide +kernel
abbrev rm_X9_better : Room := { frames := 2, cells := 0, slots := 0, locals := 55 }
def wq_X9_better_146 (x1 : Int32) (x2 : Int32) (x3 : Int32) (x4 : Int32) (Q : Int64 → hh_S → Prop) (K146 : Int64 → Int32 → hh_S → Prop) (x6 : Int64) (x8 : Int32) (σ : hh_S) : Prop := ((x4 < x8 → (wp_X9_choose x2 x3 σ (fun (r2 : Int64) (σ3 : hh_S) => (wp_X9_term x6 r2 x1 σ3 (fun (r4 : Int64) (σ5 : hh_S) => (Q r4 σ5)))))) ∧ (¬ x4 < x8 → ((x3 < x8 → (wp_X9_choose x2 x3 σ (fun (r7 : Int64) (σ8 : hh_S) => (wp_X9_term x6 r7 x1 σ8 (fun (r9 : Int64) (σ10 : hh_S) => (Q r9 σ10)))))) ∧ (¬ x3 < x8 → (wp_X9_choose x4 x8 σ (fun (r11 : Int64) (σ12 : hh_S) => (wp_X9_choose (x2 - x4) (x3 - x8) σ12 (fun (r13 : Int64) (σ14 : hh_S) => (∀ v15 : Int64, v15 = (x6 + (r11 * r13)) → (K146 v15 (x8 + (1 : Int32)) σ14))))))))))
def wq_X9_better_38 (K26 : Int32 → Int32 → Int32 → Int32 → Int32 → hh_S → Prop) (x1 : Int32) (x6 : Int32) (Q : Int64 → hh_S → Prop) (K38 : Int32 → Int32 → Int32 → Int32 → Int32 → hh_S → Prop) (x2 : Int32) (x3 : Int32) (x4 : Int32) (x5 : Int32) (x7 : Int32) (σ : hh_S) : Prop := (((hh_I σ 7) ≤ x7 → (K26 x2 x3 x4 x5 (x6 + (1 : Int32)) σ)) ∧ (¬ (hh_I σ 7) ≤ x7 → (((40 : Int32) ≤ x2 → (K26 x2 x3 x4 x5 (x6 + (1 : Int32)) σ)) ∧ (¬ (40 : Int32) ≤ x2 → (vp_in x7 24 ∧ (((hh_rA σ 8 x7) < 0 → (K38 x2 x3 x4 x5 (x7 + (1 : Int32)) σ)) ∧ (¬ (hh_rA σ 8 x7) < 0 → (wp_X9_counts x6 x7 σ (fun (r20 : Int32) (σ21 : hh_S) => ((r20 = 0 → (K38 x2 x3 x4 x5 (x7 + (1 : Int32)) σ21)) ∧ (¬ r20 = 0 → (wp_X9_isRight x6 x7 σ21 (fun (r23 : Int32) (σ24 : hh_S) => ((r23 = 0 → (∀ v26 : Int32, v26 = (x3 + (0 : Int32)) → (vp_in x6 10 ∧ (∀ v28 : Int32, v28 = (x4 + (hh_rA σ24 12 x6)) → (vp_in x6 10 ∧ (∀ v30 : Int32, v30 = (x5 + ((hh_rA σ24 12 x6) * (0 : Int32))) → (K38 (x2 + (1 : Int32)) v26 v28 v30 (x7 + (1 : Int32)) σ24))))))) ∧ (¬ r23 = 0 → (∀ v31 : Int32, v31 = (x3 + (1 : Int32)) → (vp_in x6 10 ∧ (∀ v33 : Int32, v33 = (x4 + (hh_rA σ24 12 x6)) → (vp_in x6 10 ∧ (∀ v35 : Int32, v35 = (x5 + ((hh_rA σ24 12 x6) * (1 : Int32))) → (K38 (x2 + (1 : Int32)) v31 v33 v35 (x7 + (1 : Int32)) σ24)))))))))))))))))))))
def wq_X9_better_26 (x1 : Int32) (Q : Int64 → hh_S → Prop) (K26 : Int32 → Int32 → Int32 → Int32 → Int32 → hh_S → Prop) (x2 : Int32) (x3 : Int32) (x4 : Int32) (x5 : Int32) (x6 : Int32) (σ : hh_S) : Prop := (((hh_I σ 13) ≤ x6 → (∃ n : Nat, hh_lp2 (wq_X9_better_146 x1 x2 x3 x4 Q) n (0 : Int64) x5 σ)) ∧ (¬ (hh_I σ 13) ≤ x6 → (∃ n : Nat, hh_lp5 (wq_X9_better_38 K26 x1 x6 Q) n x2 x3 x4 x5 (0 : Int32) σ)))
def wp_X9_better (x1 : Int32) (σ : hh_S) (Q : Int64 → hh_S → Prop) : Prop := (wp_X9_in x1 (0 : Int32) (1 : Int32) σ (fun (r39 : Int32) (σ40 : hh_S) => ((¬ r39 = 0 → (∃ n : Nat, hh_lp5 (wq_X9_better_26 x1 Q) n (0 : Int32) (0 : Int32) (0 : Int32) (0 : Int32) (0 : Int32) σ40)) ∧ (r39 = 0 → (Q (-1000000000000000002 : Int64) σ40)))))
theorem in_X9_better_X9 : ∀ w ∈ u_ws RX9 TX9 37, w ∈ wsX9_better := fun w h => List.mem_cons_of_mem _ (List.mem_append_right _ h)
set_option maxHeartbeats 4000000 in
set_option maxRecDepth 100000 in
theorem ad_X9_better {D : va_G} (l : Launch) {cy : Nat → ClassId} {ad : Nat → Nat} (J : hh_J hm_Y ad) (x1 : Int32) (σ : hh_S) (Q : Int64 → hh_S → Prop) (hq : wp_X9_better x1 σ Q) : Met l yX9_better wsX9_better rm_X9_better (va_Pc [.ref (ad 0), .int x1] (hh_B D hh_cl hm_Y cy ad σ)) (va_Ql Q (hh_B D hh_cl hm_Y cy ad) (hh_A hm_Y ad)) 0 0 (hh_A hm_Y ad) := by
  refine Met.ofW (cc := cX9_better) (maxL := 9) (ret := (some .long)) (by decide) rfl ?_
  intro p e s m args below meth c s₁ B hml hv
  obtain ⟨hargs, hP0, hK0⟩ := hv
  have hr := B.returns
  have hlocks := B.notSynchronized
  have X : hh_X p m c cX9_better 9 s args wsX9_better RX9 D hh_cl hm_Y cy ad := ⟨⟨B.exec, B.bytes, hml, findClass_of_methodNamed B.named, atoms_spec (ws := wsX9_better) B.pre⟩, hK0, J⟩
  have hx := X.1.1
  have hb1 := X.1.2.1
  have h : hh_H D hh_cl hm_Y cy ad s.heap σ s.heap [] := ⟨hP0, va_S.rf⟩
  have lt_146 : ∀ (x1 : Int32) (x2 : Int32) (x3 : Int32) (x4 : Int32) (n : Nat) (x6 : Int64) (x8 : Int32) (σ : hh_S) (H : Heap) (locs : List Loc) (ls : Array Slot), hh_lp2 (wq_X9_better_146 x1 x2 x3 x4 Q) n x6 x8 σ → hh_H D hh_cl hm_Y cy ad s.heap σ H locs → lv_has ls 9 [(1, .int x1), (2, .int x2), (3, .int x3), (4, .int x4), (6, .long x6), (8, .int x8)] → W p l e (headSpec wsX9_better rm_X9_better).room s m args below meth c H locs 0 0 (MQ below (va_Ql Q (hh_B D hh_cl hm_Y cy ad) (hh_A hm_Y ad)) args s 0 0 (hh_A hm_Y ad)) (F0 m 146 ls []) := by
    intro x1 x2 x3 x4 n
    induction n with
    | zero => intro x6 x8 σ H locs ls hq h hl; exact hq.elim
    | succ n ih =>
      intro x6 x8 σ H locs ls hq h hl
      have hq : wq_X9_better_146 x1 x2 x3 x4 Q (hh_lp2 (wq_X9_better_146 x1 x2 x3 x4 Q) n) x6 x8 σ := hq
      unfold wq_X9_better_146 at hq
      refine lv_iload hx hb1 dX9_better_146 (lv_at hl 5 rfl) ?_
      refine lv_iload hx hb1 dX9_better_148 (lv_at hl 3 rfl) ?_
      refine lv_icmp_gt (tgt := 189) hx hb1 dX9_better_150 (by decide) (fun c1 => ?_) (fun c1 => ?_)
      · have hq := hq.1 c1
        refine lv_lload hx hb1 dX9_better_189 (lv_at hl 4 rfl) ?_
        refine lv_iload_n hx hb1 dX9_better_191 rfl (lv_at hl 1 rfl) ?_
        refine lv_iload_n hx hb1 dX9_better_192 rfl (lv_at hl 2 rfl) ?_
        refine hh_kL h (va_runS (As := [.int x2, .int x3]) (rest := [.long x6]) X.1 (ad_X9_choose (D := D) l J x2 x3 σ _ hq) (va_cwS 2 X.1.2.2.2.2 gX9_better_X9_choose rfl rfl rfl nd_X9_choose ⟨Nat.le_of_ble_eq_true rfl, Nat.le_of_ble_eq_true rfl⟩) (hh_preS X h [.int x2, .int x3]) rfl rfl hl.1 rfl (lv_room (Nat.le_of_ble_eq_true rfl)) dX9_better_193 ⟨Nat.le_of_ble_eq_true rfl, Nat.le_of_ble_eq_true rfl⟩) (fun r2 σ3 H locs hq h => ?_)
        refine lv_iload_n hx hb1 dX9_better_196 rfl (lv_at hl 0 rfl) ?_
        refine hh_kL h (va_runS (As := [.long x6, .long r2, .int x1]) (rest := []) X.1 (ad_X9_term (D := D) l J x6 r2 x1 σ3 _ hq) (va_cwS 3 X.1.2.2.2.2 gX9_better_X9_term rfl rfl rfl nd_X9_term ⟨Nat.le_of_ble_eq_true rfl, Nat.le_of_ble_eq_true rfl⟩) (hh_preS X h [.long x6, .long r2, .int x1]) rfl rfl hl.1 rfl (lv_room (Nat.le_of_ble_eq_true rfl)) dX9_better_197 ⟨Nat.le_of_ble_eq_true rfl, Nat.le_of_ble_eq_true rfl⟩) (fun r4 σ5 H locs hq h => ?_)
        exact hh_lret X h hr hlocks hq dX9_better_200
      · have hq := hq.2 c1
        refine lv_iload hx hb1 dX9_better_153 (lv_at hl 5 rfl) ?_
        refine lv_iload_n hx hb1 dX9_better_155 rfl (lv_at hl 2 rfl) ?_
        refine lv_icmp_gt (tgt := 189) hx hb1 dX9_better_156 (by decide) (fun c6 => ?_) (fun c6 => ?_)
        · have hq := hq.1 c6
          refine lv_lload hx hb1 dX9_better_189 (lv_at hl 4 rfl) ?_
          refine lv_iload_n hx hb1 dX9_better_191 rfl (lv_at hl 1 rfl) ?_
          refine lv_iload_n hx hb1 dX9_better_192 rfl (lv_at hl 2 rfl) ?_
          refine hh_kL h (va_runS (As := [.int x2, .int x3]) (rest := [.long x6]) X.1 (ad_X9_choose (D := D) l J x2 x3 σ _ hq) (va_cwS 2 X.1.2.2.2.2 gX9_better_X9_choose rfl rfl rfl nd_X9_choose ⟨Nat.le_of_ble_eq_true rfl, Nat.le_of_ble_eq_true rfl⟩) (hh_preS X h [.int x2, .int x3]) rfl rfl hl.1 rfl (lv_room (Nat.le_of_ble_eq_true rfl)) dX9_better_193 ⟨Nat.le_of_ble_eq_true rfl, Nat.le_of_ble_eq_true rfl⟩) (fun r7 σ8 H locs hq h => ?_)
          refine lv_iload_n hx hb1 dX9_better_196 rfl (lv_at hl 0 rfl) ?_
          refine hh_kL h (va_runS (As := [.long x6, .long r7, .int x1]) (rest := []) X.1 (ad_X9_term (D := D) l J x6 r7 x1 σ8 _ hq) (va_cwS 3 X.1.2.2.2.2 gX9_better_X9_term rfl rfl rfl nd_X9_term ⟨Nat.le_of_ble_eq_true rfl, Nat.le_of_ble_eq_true rfl⟩) (hh_preS X h [.long x6, .long r7, .int x1]) rfl rfl hl.1 rfl (lv_room (Nat.le_of_ble_eq_true rfl)) dX9_better_197 ⟨Nat.le_of_ble_eq_true rfl, Nat.le_of_ble_eq_true rfl⟩) (fun r9 σ10 H locs hq h => ?_)
          exact hh_lret X h hr hlocks hq dX9_better_200
        · have hq := hq.2 c6
          refine lv_lload hx hb1 dX9_better_159 (lv_at hl 4 rfl) ?_
          refine lv_iload hx hb1 dX9_better_161 (lv_at hl 3 rfl) ?_
          refine lv_iload hx hb1 dX9_better_163 (lv_at hl 5 rfl) ?_
          refine hh_kL h (va_runS (As := [.int x4, .int x8]) (rest := [.long x6]) X.1 (ad_X9_choose (D := D) l J x4 x8 σ _ hq) (va_cwS 2 X.1.2.2.2.2 gX9_better_X9_choose rfl rfl rfl nd_X9_choose ⟨Nat.le_of_ble_eq_true rfl, Nat.le_of_ble_eq_true rfl⟩) (hh_preS X h [.int x4, .int x8]) rfl rfl hl.1 rfl (lv_room (Nat.le_of_ble_eq_true rfl)) dX9_better_165 ⟨Nat.le_of_ble_eq_true rfl, Nat.le_of_ble_eq_true rfl⟩) (fun r11 σ12 H locs hq h => ?_)
          refine lv_iload_n hx hb1 dX9_better_168 rfl (lv_at hl 1 rfl) ?_
          refine lv_iload hx hb1 dX9_better_169 (lv_at hl 3 rfl) ?_
          refine lv_isub hx hb1 dX9_better_171 ?_
          refine lv_iload_n hx hb1 dX9_better_172 rfl (lv_at hl 2 rfl) ?_
          refine lv_iload hx hb1 dX9_better_173 (lv_at hl 5 rfl) ?_
          refine lv_isub hx hb1 dX9_better_175 ?_
          refine hh_kL h (va_runS (As := [.int (x2 - x4), .int (x3 - x8)]) (rest := [.long r11, .long x6]) X.1 (ad_X9_choose (D := D) l J (x2 - x4) (x3 - x8) σ12 _ hq) (va_cwS 2 X.1.2.2.2.2 gX9_better_X9_choose rfl rfl rfl nd_X9_choose ⟨Nat.le_of_ble_eq_true rfl, Nat.le_of_ble_eq_true rfl⟩) (hh_preS X h [.int (x2 - x4), .int (x3 - x8)]) rfl rfl hl.1 rfl (lv_room (Nat.le_of_ble_eq_true rfl)) dX9_better_176 ⟨Nat.le_of_ble_eq_true rfl, Nat.le_of_ble_eq_true rfl⟩) (fun r13 σ14 H locs hq h => ?_)
          refine lv_lmul hx hb1 dX9_better_179 ?_
          refine lv_ladd hx hb1 dX9_better_180 ?_
          refine lv_topl (fun v15 ev15 => ?_)
          have hq := hq v15 ev15
          refine lv_lstore (lv' := [(6, .long v15), (1, .int x1), (2, .int x2), (3, .int x3), (4, .int x4), (8, .int x8)]) hx hb1 dX9_better_181 hl (by decide) rfl (fun ls hl => ?_)
          refine lv_iinc (v := (x8 + (1 : Int32))) (lv' := [(8, .int (x8 + (1 : Int32))), (6, .long v15), (1, .int x1), (2, .int x2), (3, .int x3), (4, .int x4)]) hx hb1 dX9_better_183 hl (k := 5) rfl rfl (by decide) rfl (fun ls hl => ?_)
          refine lv_goto (tgt := 146) hx hb1 dX9_better_186 (by decide) ?_
          exact ih v15 (x8 + (1 : Int32)) σ14 _ _ ls hq h (lv_sub hl [2, 3, 4, 5, 1, 0] rfl)
  have lt_38 : ∀ (x1 : Int32) (x6 : Int32) (K26 : Int32 → Int32 → Int32 → Int32 → Int32 → hh_S → Prop) (hK26 : ∀ (x2 : Int32) (x3 : Int32) (x4 : Int32) (x5 : Int32) (x6 : Int32) (σ : hh_S) (H : Heap) (locs : List Loc) (ls : Array Slot), K26 x2 x3 x4 x5 x6 σ → hh_H D hh_cl hm_Y cy ad s.heap σ H locs → lv_has ls 9 [(0, .ref (ad 0)), (1, .int x1), (2, .int x2), (3, .int x3), (4, .int x4), (5, .int x5), (6, .int x6)] → W p l e (headSpec wsX9_better rm_X9_better).room s m args below meth c H locs 0 0 (MQ below (va_Ql Q (hh_B D hh_cl hm_Y cy ad) (hh_A hm_Y ad)) args s 0 0 (hh_A hm_Y ad)) (F0 m 26 ls [])) (n : Nat) (x2 : Int32) (x3 : Int32) (x4 : Int32) (x5 : Int32) (x7 : Int32) (σ : hh_S) (H : Heap) (locs : List Loc) (ls : Array Slot), hh_lp5 (wq_X9_better_38 K26 x1 x6 Q) n x2 x3 x4 x5 x7 σ → hh_H D hh_cl hm_Y cy ad s.heap σ H locs → lv_has ls 9 [(0, .ref (ad 0)), (1, .int x1), (2, .int x2), (3, .int x3), (4, .int x4), (5, .int x5), (6, .int x6), (7, .int x7)] → W p l e (headSpec wsX9_better rm_X9_better).room s m args below meth c H locs 0 0 (MQ below (va_Ql Q (hh_B D hh_cl hm_Y cy ad) (hh_A hm_Y ad)) args s 0 0 (hh_A hm_Y ad)) (F0 m 38 ls []) := by
    intro x1 x6 K26 hK26 n
    induction n with
    | zero => intro x2 x3 x4 x5 x7 σ H locs ls hq h hl; exact hq.elim
    | succ n ih =>
      intro x2 x3 x4 x5 x7 σ H locs ls hq h hl
      have hq : wq_X9_better_38 K26 x1 x6 Q (hh_lp5 (wq_X9_better_38 K26 x1 x6 Q) n) x2 x3 x4 x5 x7 σ := hq
      unfold wq_X9_better_38 at hq
      refine lv_iload hx hb1 dX9_better_38 (lv_at hl 7 rfl) ?_
      refine lv_aload_n hx hb1 dX9_better_40 rfl (lv_at hl 0 rfl) ?_
      refine hh_geti X h (q := 7) fm_0_7 rfl in_X9_better_X9 km_0 (by decide) (List.mem_of_getElem? (i := 3) rfl) rfl dX9_better_41 ?_
      refine lv_icmp_ge (tgt := 133) hx hb1 dX9_better_44 (by decide) (fun c16 => ?_) (fun c16 => ?_)
      · have hq := hq.1 c16
        refine lv_iinc (v := (x6 + (1 : Int32))) (lv' := [(6, .int (x6 + (1 : Int32))), (0, .ref (ad 0)), (1, .int x1), (2, .int x2), (3, .int x3), (4, .int x4), (5, .int x5), (7, .int x7)]) hx hb1 dX9_better_133 hl (k := 6) rfl rfl (by decide) rfl (fun ls hl => ?_)
        refine lv_goto (tgt := 26) hx hb1 dX9_better_136 (by decide) ?_
        exact hK26 x2 x3 x4 x5 (x6 + (1 : Int32)) σ _ _ ls hq h (lv_sub hl [1, 2, 3, 4, 5, 6, 0] rfl)
      · have hq := hq.2 c16
        refine lv_iload_n hx hb1 dX9_better_47 rfl (lv_at hl 2 rfl) ?_
        refine lv_bipush (v := (40 : Int32)) hx hb1 dX9_better_48 (by decide) ?_
        refine lv_icmp_ge (tgt := 133) hx hb1 dX9_better_50 (by decide) (fun c17 => ?_) (fun c17 => ?_)
        · have hq := hq.1 c17
          refine lv_iinc (v := (x6 + (1 : Int32))) (lv' := [(6, .int (x6 + (1 : Int32))), (0, .ref (ad 0)), (1, .int x1), (2, .int x2), (3, .int x3), (4, .int x4), (5, .int x5), (7, .int x7)]) hx hb1 dX9_better_133 hl (k := 6) rfl rfl (by decide) rfl (fun ls hl => ?_)
          refine lv_goto (tgt := 26) hx hb1 dX9_better_136 (by decide) ?_
          exact hK26 x2 x3 x4 x5 (x6 + (1 : Int32)) σ _ _ ls hq h (lv_sub hl [1, 2, 3, 4, 5, 6, 0] rfl)
        · have hq := hq.2 c17
          refine lv_aload_n hx hb1 dX9_better_53 rfl (lv_at hl 0 rfl) ?_
          refine hh_getr X h fm_0_10 in_X9_better_X9 km_0 (by decide) (List.mem_of_getElem? (i := 4) rfl) rfl dX9_better_54 ?_
          refine lv_iload hx hb1 dX9_better_57 (lv_at hl 7 rfl) ?_
          obtain ⟨h18, hq⟩ := hq
          refine hh_ild X h am_8 h18 dX9_better_59 ?_
          refine lv_if_lt (tgt := 127) hx hb1 dX9_better_60 (by decide) (fun c19 => ?_) (fun c19 => ?_)
          · have hq := hq.1 c19
            refine lv_iinc (v := (x7 + (1 : Int32))) (lv' := [(7, .int (x7 + (1 : Int32))), (0, .ref (ad 0)), (1, .int x1), (2, .int x2), (3, .int x3), (4, .int x4), (5, .int x5), (6, .int x6)]) hx hb1 dX9_better_127 hl (k := 7) rfl rfl (by decide) rfl (fun ls hl => ?_)
            refine lv_goto (tgt := 38) hx hb1 dX9_better_130 (by decide) ?_
            exact ih x2 x3 x4 x5 (x7 + (1 : Int32)) σ _ _ ls hq h (lv_sub hl [1, 2, 3, 4, 5, 6, 7, 0] rfl)
          · have hq := hq.2 c19
            refine lv_aload_n hx hb1 dX9_better_63 rfl (lv_at hl 0 rfl) ?_
            refine lv_iload hx hb1 dX9_better_64 (lv_at hl 6 rfl) ?_
            refine lv_iload hx hb1 dX9_better_66 (lv_at hl 7 rfl) ?_
            refine hh_kI h (va_runV (As := [.int x6, .int x7]) (rest := []) X.1 (ad_X9_counts (D := D) l J x6 x7 σ _ hq) (cwV 2 X.1.2.2.2.2 gX9_better_X9_counts rfl rfl rfl nd_X9_counts ⟨Nat.le_of_ble_eq_true rfl, Nat.le_of_ble_eq_true rfl⟩) (hh_preV X h fm_0_0 km_0 [.int x6, .int x7]) rfl rfl hl.1 rfl (lv_room (Nat.le_of_ble_eq_true rfl)) dX9_better_68 ⟨Nat.le_of_ble_eq_true rfl, Nat.le_of_ble_eq_true rfl⟩) (fun r20 σ21 H locs hq h => ?_)
            refine lv_if_eq (tgt := 127) hx hb1 dX9_better_71 (by decide) (fun c22 => ?_) (fun c22 => ?_)
            · have hq := hq.1 c22
              refine lv_iinc (v := (x7 + (1 : Int32))) (lv' := [(7, .int (x7 + (1 : Int32))), (0, .ref (ad 0)), (1, .int x1), (2, .int x2), (3, .int x3), (4, .int x4), (5, .int x5), (6, .int x6)]) hx hb1 dX9_better_127 hl (k := 7) rfl rfl (by decide) rfl (fun ls hl => ?_)
              refine lv_goto (tgt := 38) hx hb1 dX9_better_130 (by decide) ?_
              exact ih x2 x3 x4 x5 (x7 + (1 : Int32)) σ21 _ _ ls hq h (lv_sub hl [1, 2, 3, 4, 5, 6, 7, 0] rfl)
            · have hq := hq.2 c22
              refine lv_aload_n hx hb1 dX9_better_74 rfl (lv_at hl 0 rfl) ?_
              refine lv_iload hx hb1 dX9_better_75 (lv_at hl 6 rfl) ?_
              refine lv_iload hx hb1 dX9_better_77 (lv_at hl 7 rfl) ?_
              refine hh_kI h (va_runV (As := [.int x6, .int x7]) (rest := []) X.1 (ad_X9_isRight (D := D) l J x6 x7 σ21 _ hq) (cwV 2 X.1.2.2.2.2 gX9_better_X9_isRight rfl rfl rfl nd_X9_isRight ⟨Nat.le_of_ble_eq_true rfl, Nat.le_of_ble_eq_true rfl⟩) (hh_preV X h fm_0_0 km_0 [.int x6, .int x7]) rfl rfl hl.1 rfl (lv_room (Nat.le_of_ble_eq_true rfl)) dX9_better_79 ⟨Nat.le_of_ble_eq_true rfl, Nat.le_of_ble_eq_true rfl⟩) (fun r23 σ24 H locs hq h => ?_)
              refine lv_if_eq (tgt := 89) hx hb1 dX9_better_82 (by decide) (fun c25 => ?_) (fun c25 => ?_)
              · have hq := hq.1 c25
                refine lv_iconst (v := (0 : Int32)) hx hb1 dX9_better_89 (by decide) ?_
                refine lv_istore (lv' := [(8, .int (0 : Int32)), (0, .ref (ad 0)), (1, .int x1), (2, .int x2), (3, .int x3), (4, .int x4), (5, .int x5), (6, .int x6), (7, .int x7)]) hx hb1 dX9_better_90 hl (by decide) rfl (fun ls hl => ?_)
                refine lv_iinc (v := (x2 + (1 : Int32))) (lv' := [(2, .int (x2 + (1 : Int32))), (8, .int (0 : Int32)), (0, .ref (ad 0)), (1, .int x1), (3, .int x3), (4, .int x4), (5, .int x5), (6, .int x6), (7, .int x7)]) hx hb1 dX9_better_92 hl (k := 3) rfl rfl (by decide) rfl (fun ls hl => ?_)
                refine lv_iload_n hx hb1 dX9_better_95 rfl (lv_at hl 4 rfl) ?_
                refine lv_iload hx hb1 dX9_better_96 (lv_at hl 1 rfl) ?_
                refine lv_iadd hx hb1 dX9_better_98 ?_
                refine lv_topi (fun v26 ev26 => ?_)
                have hq := hq v26 ev26
                refine lv_istore_n (lv' := [(3, .int v26), (2, .int (x2 + (1 : Int32))), (8, .int (0 : Int32)), (0, .ref (ad 0)), (1, .int x1), (4, .int x4), (5, .int x5), (6, .int x6), (7, .int x7)]) hx hb1 dX9_better_99 rfl hl (by decide) rfl (fun ls hl => ?_)
                refine lv_iload hx hb1 dX9_better_100 (lv_at hl 5 rfl) ?_
                refine lv_aload_n hx hb1 dX9_better_102 rfl (lv_at hl 3 rfl) ?_
                refine hh_getr X h fm_0_15 in_X9_better_X9 km_0 (by decide) (List.mem_of_getElem? (i := 5) rfl) rfl dX9_better_103 ?_
                refine lv_iload hx hb1 dX9_better_106 (lv_at hl 7 rfl) ?_
                obtain ⟨h27, hq⟩ := hq
                refine hh_ild X h am_12 h27 dX9_better_108 ?_
                refine lv_iadd hx hb1 dX9_better_109 ?_
                refine lv_topi (fun v28 ev28 => ?_)
                have hq := hq v28 ev28
                refine lv_istore (lv' := [(4, .int v28), (3, .int v26), (2, .int (x2 + (1 : Int32))), (8, .int (0 : Int32)), (0, .ref (ad 0)), (1, .int x1), (5, .int x5), (6, .int x6), (7, .int x7)]) hx hb1 dX9_better_110 hl (by decide) rfl (fun ls hl => ?_)
                refine lv_iload hx hb1 dX9_better_112 (lv_at hl 6 rfl) ?_
                refine lv_aload_n hx hb1 dX9_better_114 rfl (lv_at hl 4 rfl) ?_
                refine hh_getr X h fm_0_15 in_X9_better_X9 km_0 (by decide) (List.mem_of_getElem? (i := 5) rfl) rfl dX9_better_115 ?_
                refine lv_iload hx hb1 dX9_better_118 (lv_at hl 7 rfl) ?_
                obtain ⟨h29, hq⟩ := hq
                refine hh_ild X h am_12 h29 dX9_better_120 ?_
                refine lv_iload hx hb1 dX9_better_121 (lv_at hl 3 rfl) ?_
                refine lv_imul hx hb1 dX9_better_123 ?_
                refine lv_iadd hx hb1 dX9_better_124 ?_
                refine lv_topi (fun v30 ev30 => ?_)
                have hq := hq v30 ev30
                refine lv_istore (lv' := [(5, .int v30), (4, .int v28), (3, .int v26), (2, .int (x2 + (1 : Int32))), (8, .int (0 : Int32)), (0, .ref (ad 0)), (1, .int x1), (6, .int x6), (7, .int x7)]) hx hb1 dX9_better_125 hl (by decide) rfl (fun ls hl => ?_)
                refine lv_iinc (v := (x7 + (1 : Int32))) (lv' := [(7, .int (x7 + (1 : Int32))), (5, .int v30), (4, .int v28), (3, .int v26), (2, .int (x2 + (1 : Int32))), (8, .int (0 : Int32)), (0, .ref (ad 0)), (1, .int x1), (6, .int x6)]) hx hb1 dX9_better_127 hl (k := 8) rfl rfl (by decide) rfl (fun ls hl => ?_)
                refine lv_goto (tgt := 38) hx hb1 dX9_better_130 (by decide) ?_
                exact ih (x2 + (1 : Int32)) v26 v28 v30 (x7 + (1 : Int32)) σ24 _ _ ls hq h (lv_sub hl [6, 7, 4, 3, 2, 1, 8, 0] rfl)
              · have hq := hq.2 c25
                refine lv_iconst (v := (1 : Int32)) hx hb1 dX9_better_85 (by decide) ?_
                refine lv_goto (tgt := 90) hx hb1 dX9_better_86 (by decide) ?_
                refine lv_istore (lv' := [(8, .int (1 : Int32)), (0, .ref (ad 0)), (1, .int x1), (2, .int x2), (3, .int x3), (4, .int x4), (5, .int x5), (6, .int x6), (7, .int x7)]) hx hb1 dX9_better_90 hl (by decide) rfl (fun ls hl => ?_)
                refine lv_iinc (v := (x2 + (1 : Int32))) (lv' := [(2, .int (x2 + (1 : Int32))), (8, .int (1 : Int32)), (0, .ref (ad 0)), (1, .int x1), (3, .int x3), (4, .int x4), (5, .int x5), (6, .int x6), (7, .int x7)]) hx hb1 dX9_better_92 hl (k := 3) rfl rfl (by decide) rfl (fun ls hl => ?_)
                refine lv_iload_n hx hb1 dX9_better_95 rfl (lv_at hl 4 rfl) ?_
                refine lv_iload hx hb1 dX9_better_96 (lv_at hl 1 rfl) ?_
                refine lv_iadd hx hb1 dX9_better_98 ?_
                refine lv_topi (fun v31 ev31 => ?_)
                have hq := hq v31 ev31
                refine lv_istore_n (lv' := [(3, .int v31), (2, .int (x2 + (1 : Int32))), (8, .int (1 : Int32)), (0, .ref (ad 0)), (1, .int x1), (4, .int x4), (5, .int x5), (6, .int x6), (7, .int x7)]) hx hb1 dX9_better_99 rfl hl (by decide) rfl (fun ls hl => ?_)
                refine lv_iload hx hb1 dX9_better_100 (lv_at hl 5 rfl) ?_
                refine lv_aload_n hx hb1 dX9_better_102 rfl (lv_at hl 3 rfl) ?_
                refine hh_getr X h fm_0_15 in_X9_better_X9 km_0 (by decide) (List.mem_of_getElem? (i := 5) rfl) rfl dX9_better_103 ?_
                refine lv_iload hx hb1 dX9_better_106 (lv_at hl 7 rfl) ?_
                obtain ⟨h32, hq⟩ := hq
                refine hh_ild X h am_12 h32 dX9_better_108 ?_
                refine lv_iadd hx hb1 dX9_better_109 ?_
                refine lv_topi (fun v33 ev33 => ?_)
                have hq := hq v33 ev33
                refine lv_istore (lv' := [(4, .int v33), (3, .int v31), (2, .int (x2 + (1 : Int32))), (8, .int (1 : Int32)), (0, .ref (ad 0)), (1, .int x1), (5, .int x5), (6, .int x6), (7, .int x7)]) hx hb1 dX9_better_110 hl (by decide) rfl (fun ls hl => ?_)
                refine lv_iload hx hb1 dX9_better_112 (lv_at hl 6 rfl) ?_
                refine lv_aload_n hx hb1 dX9_better_114 rfl (lv_at hl 4 rfl) ?_
                refine hh_getr X h fm_0_15 in_X9_better_X9 km_0 (by decide) (List.mem_of_getElem? (i := 5) rfl) rfl dX9_better_115 ?_
                refine lv_iload hx hb1 dX9_better_118 (lv_at hl 7 rfl) ?_
                obtain ⟨h34, hq⟩ := hq
                refine hh_ild X h am_12 h34 dX9_better_120 ?_
                refine lv_iload hx hb1 dX9_better_121 (lv_at hl 3 rfl) ?_
                refine lv_imul hx hb1 dX9_better_123 ?_
                refine lv_iadd hx hb1 dX9_better_124 ?_
                refine lv_topi (fun v35 ev35 => ?_)
                have hq := hq v35 ev35
                refine lv_istore (lv' := [(5, .int v35), (4, .int v33), (3, .int v31), (2, .int (x2 + (1 : Int32))), (8, .int (1 : Int32)), (0, .ref (ad 0)), (1, .int x1), (6, .int x6), (7, .int x7)]) hx hb1 dX9_better_125 hl (by decide) rfl (fun ls hl => ?_)
                refine lv_iinc (v := (x7 + (1 : Int32))) (lv' := [(7, .int (x7 + (1 : Int32))), (5, .int v35), (4, .int v33), (3, .int v31), (2, .int (x2 + (1 : Int32))), (8, .int (1 : Int32)), (0, .ref (ad 0)), (1, .int x1), (6, .int x6)]) hx hb1 dX9_better_127 hl (k := 8) rfl rfl (by decide) rfl (fun ls hl => ?_)
                refine lv_goto (tgt := 38) hx hb1 dX9_better_130 (by decide) ?_
                exact ih (x2 + (1 : Int32)) v31 v33 v35 (x7 + (1 : Int32)) σ24 _ _ ls hq h (lv_sub hl [6, 7, 4, 3, 2, 1, 8, 0] rfl)
  have lt_26 : ∀ (x1 : Int32) (n : Nat) (x2 : Int32) (x3 : Int32) (x4 : Int32) (x5 : Int32) (x6 : Int32) (σ : hh_S) (H : Heap) (locs : List Loc) (ls : Array Slot), hh_lp5 (wq_X9_better_26 x1 Q) n x2 x3 x4 x5 x6 σ → hh_H D hh_cl hm_Y cy ad s.heap σ H locs → lv_has ls 9 [(0, .ref (ad 0)), (1, .int x1), (2, .int x2), (3, .int x3), (4, .int x4), (5, .int x5), (6, .int x6)] → W p l e (headSpec wsX9_better rm_X9_better).room s m args below meth c H locs 0 0 (MQ below (va_Ql Q (hh_B D hh_cl hm_Y cy ad) (hh_A hm_Y ad)) args s 0 0 (hh_A hm_Y ad)) (F0 m 26 ls []) := by
    intro x1 n
    induction n with
    | zero => intro x2 x3 x4 x5 x6 σ H locs ls hq h hl; exact hq.elim
    | succ n ih =>
      intro x2 x3 x4 x5 x6 σ H locs ls hq h hl
      have hq : wq_X9_better_26 x1 Q (hh_lp5 (wq_X9_better_26 x1 Q) n) x2 x3 x4 x5 x6 σ := hq
      unfold wq_X9_better_26 at hq
      refine lv_iload hx hb1 dX9_better_26 (lv_at hl 6 rfl) ?_
      refine lv_aload_n hx hb1 dX9_better_28 rfl (lv_at hl 0 rfl) ?_
      refine hh_geti X h (q := 13) fm_0_13 rfl in_X9_better_X9 km_0 (by decide) (List.mem_of_getElem? (i := 2) rfl) rfl dX9_better_29 ?_
      refine lv_icmp_ge (tgt := 139) hx hb1 dX9_better_32 (by decide) (fun c36 => ?_) (fun c36 => ?_)
      · have hq := hq.1 c36
        refine lv_lconst (v := (0 : Int64)) hx hb1 dX9_better_139 (by decide) ?_
        refine lv_lstore (lv' := [(6, .long (0 : Int64)), (0, .ref (ad 0)), (1, .int x1), (2, .int x2), (3, .int x3), (4, .int x4), (5, .int x5)]) hx hb1 dX9_better_140 hl (by decide) rfl (fun ls hl => ?_)
        refine lv_iload hx hb1 dX9_better_142 (lv_at hl 6 rfl) ?_
        refine lv_istore (lv' := [(8, .int x5), (6, .long (0 : Int64)), (0, .ref (ad 0)), (1, .int x1), (2, .int x2), (3, .int x3), (4, .int x4), (5, .int x5)]) hx hb1 dX9_better_144 hl (by decide) rfl (fun ls hl => ?_)
        obtain ⟨n37, hq⟩ := hq
        exact lt_146 x1 x2 x3 x4 n37 (0 : Int64) x5 σ _ _ ls hq h (lv_sub hl [3, 4, 5, 6, 1, 0] rfl)
      · have hq := hq.2 c36
        refine lv_iconst (v := (0 : Int32)) hx hb1 dX9_better_35 (by decide) ?_
        refine lv_istore (lv' := [(7, .int (0 : Int32)), (0, .ref (ad 0)), (1, .int x1), (2, .int x2), (3, .int x3), (4, .int x4), (5, .int x5), (6, .int x6)]) hx hb1 dX9_better_36 hl (by decide) rfl (fun ls hl => ?_)
        obtain ⟨n38, hq⟩ := hq
        exact lt_38 x1 x6 (hh_lp5 (wq_X9_better_26 x1 Q) n) ih n38 x2 x3 x4 x5 (0 : Int32) σ _ _ ls hq h (lv_sub hl [1, 2, 3, 4, 5, 6, 7, 0] rfl)
  subst hargs
  refine hh_entry (vs := [.ref (ad 0), .int x1]) (Nat.le_of_ble_eq_true rfl) (fun ls hl => ?_)
  have hl : lv_has ls 9 [(0, .ref (ad 0)), (1, .int x1)] := hl
  have hq : wp_X9_better x1 σ Q := hq
  unfold wp_X9_better at hq
  refine lv_iload_n hx hb1 dX9_better_0 rfl (lv_at hl 1 rfl) ?_
  refine lv_iconst (v := (0 : Int32)) hx hb1 dX9_better_1 (by decide) ?_
  refine lv_iconst (v := (1 : Int32)) hx hb1 dX9_better_2 (by decide) ?_
  refine hh_kI h (va_runS (As := [.int x1, .int (0 : Int32), .int (1 : Int32)]) (rest := []) X.1 (ad_X9_in (D := D) l J x1 (0 : Int32) (1 : Int32) σ _ hq) (va_cwS 3 X.1.2.2.2.2 gX9_better_X9_in rfl rfl rfl nd_X9_in ⟨Nat.le_of_ble_eq_true rfl, Nat.le_of_ble_eq_true rfl⟩) (hh_preS X h [.int x1, .int (0 : Int32), .int (1 : Int32)]) rfl rfl hl.1 rfl (lv_room (Nat.le_of_ble_eq_true rfl)) dX9_better_3 ⟨Nat.le_of_ble_eq_true rfl, Nat.le_of_ble_eq_true rfl⟩) (fun r39 σ40 H locs hq h => ?_)
  refine lv_if_ne (tgt := 13) hx hb1 dX9_better_6 (by decide) (fun c41 => ?_) (fun c41 => ?_)
  · have hq := hq.1 c41
    refine lv_iconst (v := (0 : Int32)) hx hb1 dX9_better_13 (by decide) ?_
    refine lv_istore_n (lv' := [(2, .int (0 : Int32)), (0, .ref (ad 0)), (1, .int x1)]) hx hb1 dX9_better_14 rfl hl (by decide) rfl (fun ls hl => ?_)
    refine lv_iconst (v := (0 : Int32)) hx hb1 dX9_better_15 (by decide) ?_
    refine lv_istore_n (lv' := [(3, .int (0 : Int32)), (2, .int (0 : Int32)), (0, .ref (ad 0)), (1, .int x1)]) hx hb1 dX9_better_16 rfl hl (by decide) rfl (fun ls hl => ?_)
    refine lv_iconst (v := (0 : Int32)) hx hb1 dX9_better_17 (by decide) ?_
    refine lv_istore (lv' := [(4, .int (0 : Int32)), (3, .int (0 : Int32)), (2, .int (0 : Int32)), (0, .ref (ad 0)), (1, .int x1)]) hx hb1 dX9_better_18 hl (by decide) rfl (fun ls hl => ?_)
    refine lv_iconst (v := (0 : Int32)) hx hb1 dX9_better_20 (by decide) ?_
    refine lv_istore (lv' := [(5, .int (0 : Int32)), (4, .int (0 : Int32)), (3, .int (0 : Int32)), (2, .int (0 : Int32)), (0, .ref (ad 0)), (1, .int x1)]) hx hb1 dX9_better_21 hl (by decide) rfl (fun ls hl => ?_)
    refine lv_iconst (v := (0 : Int32)) hx hb1 dX9_better_23 (by decide) ?_
    refine lv_istore (lv' := [(6, .int (0 : Int32)), (5, .int (0 : Int32)), (4, .int (0 : Int32)), (3, .int (0 : Int32)), (2, .int (0 : Int32)), (0, .ref (ad 0)), (1, .int x1)]) hx hb1 dX9_better_24 hl (by decide) rfl (fun ls hl => ?_)
    obtain ⟨n42, hq⟩ := hq
    exact lt_26 x1 n42 (0 : Int32) (0 : Int32) (0 : Int32) (0 : Int32) (0 : Int32) σ40 _ _ ls hq h (lv_sub hl [5, 6, 4, 3, 2, 1, 0] rfl)
  · have hq := hq.2 c41
    refine lv_ldc2 (v := (-1000000000000000002 : Int64)) hx hb1 X.1.2.2.2.1 (X.1.2.2.2.2 _ (List.mem_of_getElem? (i := 1) rfl)) dX9_better_9 ?_
    exact hh_lret X h hr hlocks hq dX9_better_12
theorem nd_X9_laidEnd : yX9_laidEnd.cls = RX9 ∧ yX9_laidEnd.cls ≠ "java/lang/invoke/MethodHandle" ∧ yX9_laidEnd.cls ≠ "java/lang/invoke/VarHandle" ∧ (parseMethodDescriptor yX9_laidEnd.desc).map (fun d => d.parameters.length) = some 1 := by decide +kernel
abbrev rm_X9_laidEnd : Room := { frames := 1, cells := 0, slots := 0, locals := 21 }
def wq_X9_laidEnd_4 (x1 : Int32) (Q : Int32 → hh_S → Prop) (K4 : Int32 → Int32 → hh_S → Prop) (x2 : Int32) (x3 : Int32) (σ : hh_S) : Prop := (wp_X9_labelsOf x1 σ (fun (r1 : Int32) (σ2 : hh_S) => ((r1 ≤ x3 → (Q x2 σ2)) ∧ (¬ r1 ≤ x3 → (vp_in (((4 : Int32) * x1) + x3) 96 ∧ (vp_in (((4 : Int32) * x1) + x2) 96 ∧ (((hh_rA σ2 17 (((4 : Int32) * x1) + x3)) ≤ (hh_rA σ2 17 (((4 : Int32) * x1) + x2)) → (K4 x2 (x3 + (1 : Int32)) σ2)) ∧ (¬ (hh_rA σ2 17 (((4 : Int32) * x1) + x3)) ≤ (hh_rA σ2 17 (((4 : Int32) * x1) + x2)) → (K4 x3 (x3 + (1 : Int32)) σ2)))))))))
def wp_X9_laidEnd (x1 : Int32) (σ : hh_S) (Q : Int32 → hh_S → Prop) : Prop := (∃ n : Nat, hh_lp2 (wq_X9_laidEnd_4 x1 Q) n (0 : Int32) (1 : Int32) σ)
theorem in_X9_laidEnd_X9 : ∀ w ∈ u_ws RX9 TX9 37, w ∈ wsX9_laidEnd := fun w h => List.mem_cons_of_mem _ (List.mem_append_right _ h)
set_option maxHeartbeats 4000000 in
set_option maxRecDepth 100000 in
theorem ad_X9_laidEnd {D : va_G} (l : Launch) {cy : Nat → ClassId} {ad : Nat → Nat} (J : hh_J hm_Y ad) (x1 : Int32) (σ : hh_S) (Q : Int32 → hh_S → Prop) (hq : wp_X9_laidEnd x1 σ Q) : Met l yX9_laidEnd wsX9_laidEnd rm_X9_laidEnd (va_Pc [.ref (ad 0), .int x1] (hh_B D hh_cl hm_Y cy ad σ)) (va_Qi Q (hh_B D hh_cl hm_Y cy ad) (hh_A hm_Y ad)) 0 0 (hh_A hm_Y ad) := by
  refine Met.ofW (cc := cX9_laidEnd) (maxL := 4) (ret := (some .int)) (by decide) rfl ?_
  intro p e s m args below meth c s₁ B hml hv
  obtain ⟨hargs, hP0, hK0⟩ := hv
  have hr := B.returns
  have hlocks := B.notSynchronized
  have X : hh_X p m c cX9_laidEnd 4 s args wsX9_laidEnd RX9 D hh_cl hm_Y cy ad := ⟨⟨B.exec, B.bytes, hml, findClass_of_methodNamed B.named, atoms_spec (ws := wsX9_laidEnd) B.pre⟩, hK0, J⟩
  have hx := X.1.1
  have hb1 := X.1.2.1
  have h : hh_H D hh_cl hm_Y cy ad s.heap σ s.heap [] := ⟨hP0, va_S.rf⟩
  have lt_4 : ∀ (x1 : Int32) (n : Nat) (x2 : Int32) (x3 : Int32) (σ : hh_S) (H : Heap) (locs : List Loc) (ls : Array Slot), hh_lp2 (wq_X9_laidEnd_4 x1 Q) n x2 x3 σ → hh_H D hh_cl hm_Y cy ad s.heap σ H locs → lv_has ls 4 [(0, .ref (ad 0)), (1, .int x1), (2, .int x2), (3, .int x3)] → W p l e (headSpec wsX9_laidEnd rm_X9_laidEnd).room s m args below meth c H locs 0 0 (MQ below (va_Qi Q (hh_B D hh_cl hm_Y cy ad) (hh_A hm_Y ad)) args s 0 0 (hh_A hm_Y ad)) (F0 m 4 ls []) := by
    intro x1 n
    induction n with
    | zero => intro x2 x3 σ H locs ls hq h hl; exact hq.elim
    | succ n ih =>
      intro x2 x3 σ H locs ls hq h hl
      have hq : wq_X9_laidEnd_4 x1 Q (hh_lp2 (wq_X9_laidEnd_4 x1 Q) n) x2 x3 σ := hq
      unfold wq_X9_laidEnd_4 at hq
      refine lv_iload_n hx hb1 dX9_laidEnd_4 rfl (lv_at hl 3 rfl) ?_
      refine lv_aload_n hx hb1 dX9_laidEnd_5 rfl (lv_at hl 0 rfl) ?_
      refine lv_iload_n hx hb1 dX9_laidEnd_6 rfl (lv_at hl 1 rfl) ?_
      refine hh_kI h (va_runV (As := [.int x1]) (rest := [.int x3]) X.1 (ad_X9_labelsOf (D := D) l J x1 σ _ hq) (cwV 1 X.1.2.2.2.2 gX9_laidEnd_X9_labelsOf rfl rfl rfl nd_X9_labelsOf ⟨Nat.le_of_ble_eq_true rfl, Nat.le_of_ble_eq_true rfl⟩) (hh_preV X h fm_0_0 km_0 [.int x1]) rfl rfl hl.1 rfl (lv_room (Nat.le_of_ble_eq_true rfl)) dX9_laidEnd_7 ⟨Nat.le_of_ble_eq_true rfl, Nat.le_of_ble_eq_true rfl⟩) (fun r1 σ2 H locs hq h => ?_)
      refine lv_icmp_ge (tgt := 48) hx hb1 dX9_laidEnd_10 (by decide) (fun c3 => ?_) (fun c3 => ?_)
      · have hq := hq.1 c3
        refine lv_iload_n hx hb1 dX9_laidEnd_48 rfl (lv_at hl 2 rfl) ?_
        exact hh_iret X h hr hlocks hq dX9_laidEnd_49
      · have hq := hq.2 c3
        refine lv_aload_n hx hb1 dX9_laidEnd_13 rfl (lv_at hl 0 rfl) ?_
        refine hh_getr X h fm_0_23 in_X9_laidEnd_X9 km_0 (by decide) (List.mem_of_getElem? (i := 1) rfl) rfl dX9_laidEnd_14 ?_
        refine lv_iconst (v := (4 : Int32)) hx hb1 dX9_laidEnd_17 (by decide) ?_
        refine lv_iload_n hx hb1 dX9_laidEnd_18 rfl (lv_at hl 1 rfl) ?_
        refine lv_imul hx hb1 dX9_laidEnd_19 ?_
        refine lv_iload_n hx hb1 dX9_laidEnd_20 rfl (lv_at hl 3 rfl) ?_
        refine lv_iadd hx hb1 dX9_laidEnd_21 ?_
        obtain ⟨h4, hq⟩ := hq
        refine hh_ild X h am_17 h4 dX9_laidEnd_22 ?_
        refine lv_aload_n hx hb1 dX9_laidEnd_23 rfl (lv_at hl 0 rfl) ?_
        refine hh_getr X h fm_0_23 in_X9_laidEnd_X9 km_0 (by decide) (List.mem_of_getElem? (i := 1) rfl) rfl dX9_laidEnd_24 ?_
        refine lv_iconst (v := (4 : Int32)) hx hb1 dX9_laidEnd_27 (by decide) ?_
        refine lv_iload_n hx hb1 dX9_laidEnd_28 rfl (lv_at hl 1 rfl) ?_
        refine lv_imul hx hb1 dX9_laidEnd_29 ?_
        refine lv_iload_n hx hb1 dX9_laidEnd_30 rfl (lv_at hl 2 rfl) ?_
        refine lv_iadd hx hb1 dX9_laidEnd_31 ?_
        obtain ⟨h5, hq⟩ := hq
        refine hh_ild X h am_17 h5 dX9_laidEnd_32 ?_
        refine lv_icmp_le (tgt := 40) hx hb1 dX9_laidEnd_33 (by decide) (fun c6 => ?_) (fun c6 => ?_)
        · have hq := hq.1 c6
          refine lv_iload_n hx hb1 dX9_laidEnd_40 rfl (lv_at hl 2 rfl) ?_
          refine lv_istore_n (lv' := [(2, .int x2), (0, .ref (ad 0)), (1, .int x1), (3, .int x3)]) hx hb1 dX9_laidEnd_41 rfl hl (by decide) rfl (fun ls hl => ?_)
          refine lv_iinc (v := (x3 + (1 : Int32))) (lv' := [(3, .int (x3 + (1 : Int32))), (2, .int x2), (0, .ref (ad 0)), (1, .int x1)]) hx hb1 dX9_laidEnd_42 hl (k := 3) rfl rfl (by decide) rfl (fun ls hl => ?_)
          refine lv_goto (tgt := 4) hx hb1 dX9_laidEnd_45 (by decide) ?_
          exact ih x2 (x3 + (1 : Int32)) σ2 _ _ ls hq h (lv_sub hl [2, 3, 1, 0] rfl)
        · have hq := hq.2 c6
          refine lv_iload_n hx hb1 dX9_laidEnd_36 rfl (lv_at hl 3 rfl) ?_
          refine lv_goto (tgt := 41) hx hb1 dX9_laidEnd_37 (by decide) ?_
          refine lv_istore_n (lv' := [(2, .int x3), (0, .ref (ad 0)), (1, .int x1), (3, .int x3)]) hx hb1 dX9_laidEnd_41 rfl hl (by decide) rfl (fun ls hl => ?_)
          refine lv_iinc (v := (x3 + (1 : Int32))) (lv' := [(3, .int (x3 + (1 : Int32))), (2, .int x3), (0, .ref (ad 0)), (1, .int x1)]) hx hb1 dX9_laidEnd_42 hl (k := 3) rfl rfl (by decide) rfl (fun ls hl => ?_)
          refine lv_goto (tgt := 4) hx hb1 dX9_laidEnd_45 (by decide) ?_
          exact ih x3 (x3 + (1 : Int32)) σ2 _ _ ls hq h (lv_sub hl [2, 3, 1, 0] rfl)
  subst hargs
  refine hh_entry (vs := [.ref (ad 0), .int x1]) (Nat.le_of_ble_eq_true rfl) (fun ls hl => ?_)
  have hl : lv_has ls 4 [(0, .ref (ad 0)), (1, .int x1)] := hl
  have hq : wp_X9_laidEnd x1 σ Q := hq
  unfold wp_X9_laidEnd at hq
  refine lv_iconst (v := (0 : Int32)) hx hb1 dX9_laidEnd_0 (by decide) ?_
  refine lv_istore_n (lv' := [(2, .int (0 : Int32)), (0, .ref (ad 0)), (1, .int x1)]) hx hb1 dX9_laidEnd_1 rfl hl (by decide) rfl (fun ls hl => ?_)
  refine lv_iconst (v := (1 : Int32)) hx hb1 dX9_laidEnd_2 (by decide) ?_
  refine lv_istore_n (lv' := [(3, .int (1 : Int32)), (2, .int (0 : Int32)), (0, .ref (ad 0)), (1, .int x1)]) hx hb1 dX9_laidEnd_3 rfl hl (by decide) rfl (fun ls hl => ?_)
  obtain ⟨n7, hq⟩ := hq
  exact lt_4 x1 n7 (0 : Int32) (1 : Int32) σ _ _ ls hq h (lv_sub hl [2, 3, 1, 0] rfl)
theorem nd_X9_lean : yX9_lean.cls = RX9 ∧ yX9_lean.cls ≠ "java/lang/invoke/MethodHandle" ∧ yX9_lean.cls ≠ "java/lang/invoke/VarHandle" ∧ (parseMethodDescriptor yX9_lean.desc).map (fun d => d.parameters.length) = some 1 := by decide +kernel
abbrev rm_X9_lean : Room := { frames := 4, cells := 0, slots := 0, locals := 98 }
def wq_X9_lean_208 (x3 : Int32) (Q : Int32 → hh_S → Prop) (K208 : Int32 → hh_S → Prop) (x4 : Int32) (σ : hh_S) : Prop := (((480 : Int32) ≤ x4 → (Q x3 σ)) ∧ (¬ (480 : Int32) ≤ x4 → (vp_in x4 480 ∧ (vp_in x4 480 ∧ ∀ σ4 : hh_S, σ4 = hh_sA σ 18 x4 (hh_rA σ 20 x4) → (K208 (x4 + (1 : Int32)) σ4)))))
def wq_X9_lean_178 (x3 : Int32) (Q : Int32 → hh_S → Prop) (K178 : Int32 → hh_S → Prop) (x4 : Int32) (σ : hh_S) : Prop := (((96 : Int32) ≤ x4 → (∃ n : Nat, hh_lp1 (wq_X9_lean_208 x3 Q) n (0 : Int32) σ)) ∧ (¬ (96 : Int32) ≤ x4 → (vp_in x4 96 ∧ (vp_in x4 96 ∧ ∀ σ9 : hh_S, σ9 = hh_sA σ 17 x4 (hh_rA σ 19 x4) → (K178 (x4 + (1 : Int32)) σ9)))))
def wq_X9_lean_126 (x1 : Int32) (x2 : Int32) (Q : Int32 → hh_S → Prop) (K126 : Int32 → Int32 → hh_S → Prop) (x3 : Int32) (x4 : Int32) (σ : hh_S) : Prop := (((hh_I σ 7) ≤ x4 → (vp_in x1 10 ∧ ∀ σ12 : hh_S, σ12 = hh_sA σ 11 x1 (vp_nar .boolean x2) → (∃ n : Nat, hh_lp1 (wq_X9_lean_178 x3 Q) n (0 : Int32) σ12))) ∧ (¬ (hh_I σ 7) ≤ x4 → (wp_X9_laidEnd x4 σ (fun (r14 : Int32) (σ15 : hh_S) => (vp_in x4 24 ∧ ((¬ r14 = (hh_rA σ15 27 x4) → (∀ v18 : Int32, v18 = (x3 ||| ((1 : Int32) <<< (x4 &&& 31))) → (K126 v18 (x4 + (1 : Int32)) σ15))) ∧ (r14 = (hh_rA σ15 27 x4) → (∀ v19 : Int32, v19 = (x3 ||| (0 : Int32)) → (K126 v19 (x4 + (1 : Int32)) σ15)))))))))
def wq_X9_lean_84 (x1 : Int32) (x2 : Int32) (Q : Int32 → hh_S → Prop) (K84 : Int32 → hh_S → Prop) (x3 : Int32) (σ : hh_S) : Prop := (((hh_I σ 7) ≤ x3 → (vp_in x1 10 ∧ ∀ σ22 : hh_S, σ22 = hh_sA σ 11 x1 (vp_nar .boolean (1 : Int32)) → (wp_X9_joinAll σ22 (fun (r23 : Int32) (σ24 : hh_S) => (∃ n : Nat, hh_lp2 (wq_X9_lean_126 x1 x2 Q) n (0 : Int32) (0 : Int32) σ24))))) ∧ (¬ (hh_I σ 7) ≤ x3 → (wp_X9_laidEnd x3 σ (fun (r26 : Int32) (σ27 : hh_S) => (vp_in x3 24 ∧ ∀ σ29 : hh_S, σ29 = hh_sA σ27 27 x3 r26 → (K84 (x3 + (1 : Int32)) σ29))))))
def wq_X9_lean_38 (x1 : Int32) (Q : Int32 → hh_S → Prop) (K38 : Int32 → hh_S → Prop) (x2 : Int32) (σ : hh_S) : Prop := (((480 : Int32) ≤ x2 → (vp_in x1 10 ∧ (∀ v32 : Int32, v32 = (hh_rA σ 11 x1) → (vp_in x1 10 ∧ ∀ σ34 : hh_S, σ34 = hh_sA σ 11 x1 (vp_nar .boolean (0 : Int32)) → (wp_X9_joinAll σ34 (fun (r35 : Int32) (σ36 : hh_S) => (∃ n : Nat, hh_lp1 (wq_X9_lean_84 x1 v32 Q) n (0 : Int32) σ36))))))) ∧ (¬ (480 : Int32) ≤ x2 → (vp_in x2 480 ∧ (vp_in x2 480 ∧ ∀ σ40 : hh_S, σ40 = hh_sA σ 20 x2 (hh_rA σ 18 x2) → (K38 (x2 + (1 : Int32)) σ40)))))
def wq_X9_lean_12 (x1 : Int32) (Q : Int32 → hh_S → Prop) (K12 : Int32 → hh_S → Prop) (x2 : Int32) (σ : hh_S) : Prop := (((96 : Int32) ≤ x2 → (∃ n : Nat, hh_lp1 (wq_X9_lean_38 x1 Q) n (0 : Int32) σ)) ∧ (¬ (96 : Int32) ≤ x2 → (vp_in x2 96 ∧ (vp_in x2 96 ∧ ∀ σ45 : hh_S, σ45 = hh_sA σ 19 x2 (hh_rA σ 17 x2) → (K12 (x2 + (1 : Int32)) σ45)))))
def wp_X9_lean (x1 : Int32) (σ : hh_S) (Q : Int32 → hh_S → Prop) : Prop := (wp_X9_isHand x1 σ (fun (r46 : Int32) (σ47 : hh_S) => ((¬ r46 = 0 → (∃ n : Nat, hh_lp1 (wq_X9_lean_12 x1 Q) n (0 : Int32) σ47)) ∧ (r46 = 0 → (Q (-1 : Int32) σ47)))))
theorem in_X9_lean_X9 : ∀ w ∈ u_ws RX9 TX9 37, w ∈ wsX9_lean := fun w h => List.mem_cons_of_mem _ (List.mem_append_right _ h)
set_option maxHeartbeats 4000000 in
set_option maxRecDepth 100000 in
theorem ad_X9_lean {D : va_G} (l : Launch) {cy : Nat → ClassId} {ad : Nat → Nat} (J : hh_J hm_Y ad) (x1 : Int32) (σ : hh_S) (Q : Int32 → hh_S → Prop) (hq : wp_X9_lean x1 σ Q) : Met l yX9_lean wsX9_lean rm_X9_lean (va_Pc [.ref (ad 0), .int x1] (hh_B D hh_cl hm_Y cy ad σ)) (va_Qi Q (hh_B D hh_cl hm_Y cy ad) (hh_A hm_Y ad)) 0 0 (hh_A hm_Y ad) := by
  refine Met.ofW (cc := cX9_lean) (maxL := 5) (ret := (some .int)) (by decide) rfl ?_
  intro p e s m args below meth c s₁ B hml hv
  obtain ⟨hargs, hP0, hK0⟩ := hv
  have hr := B.returns
  have hlocks := B.notSynchronized
  have X : hh_X p m c cX9_lean 5 s args wsX9_lean RX9 D hh_cl hm_Y cy ad := ⟨⟨B.exec, B.bytes, hml, findClass_of_methodNamed B.named, atoms_spec (ws := wsX9_lean) B.pre⟩, hK0, J⟩
  have hx := X.1.1
  have hb1 := X.1.2.1
  have h : hh_H D hh_cl hm_Y cy ad s.heap σ s.heap [] := ⟨hP0, va_S.rf⟩
  have lt_208 : ∀ (x3 : Int32) (n : Nat) (x4 : Int32) (σ : hh_S) (H : Heap) (locs : List Loc) (ls : Array Slot), hh_lp1 (wq_X9_lean_208 x3 Q) n x4 σ → hh_H D hh_cl hm_Y cy ad s.heap σ H locs → lv_has ls 5 [(0, .ref (ad 0)), (3, .int x3), (4, .int x4)] → W p l e (headSpec wsX9_lean rm_X9_lean).room s m args below meth c H locs 0 0 (MQ below (va_Qi Q (hh_B D hh_cl hm_Y cy ad) (hh_A hm_Y ad)) args s 0 0 (hh_A hm_Y ad)) (F0 m 208 ls []) := by
    intro x3 n
    induction n with
    | zero => intro x4 σ H locs ls hq h hl; exact hq.elim
    | succ n ih =>
      intro x4 σ H locs ls hq h hl
      have hq : wq_X9_lean_208 x3 Q (hh_lp1 (wq_X9_lean_208 x3 Q) n) x4 σ := hq
      unfold wq_X9_lean_208 at hq
      refine lv_iload hx hb1 dX9_lean_208 (lv_at hl 2 rfl) ?_
      refine lv_sipush (v := (480 : Int32)) hx hb1 dX9_lean_210 (by decide) ?_
      refine lv_icmp_ge (tgt := 236) hx hb1 dX9_lean_213 (by decide) (fun c1 => ?_) (fun c1 => ?_)
      · have hq := hq.1 c1
        refine lv_iload_n hx hb1 dX9_lean_236 rfl (lv_at hl 1 rfl) ?_
        exact hh_iret X h hr hlocks hq dX9_lean_237
      · have hq := hq.2 c1
        refine lv_aload_n hx hb1 dX9_lean_216 rfl (lv_at hl 0 rfl) ?_
        refine hh_getr X h fm_0_24 in_X9_lean_X9 km_0 (by decide) (List.mem_of_getElem? (i := 4) rfl) rfl dX9_lean_217 ?_
        refine lv_iload hx hb1 dX9_lean_220 (lv_at hl 2 rfl) ?_
        refine lv_aload_n hx hb1 dX9_lean_222 rfl (lv_at hl 0 rfl) ?_
        refine hh_getr X h fm_0_26 in_X9_lean_X9 km_0 (by decide) (List.mem_of_getElem? (i := 3) rfl) rfl dX9_lean_223 ?_
        refine lv_iload hx hb1 dX9_lean_226 (lv_at hl 2 rfl) ?_
        obtain ⟨h2, hq⟩ := hq
        refine hh_ild X h am_20 h2 dX9_lean_228 ?_
        obtain ⟨h3, hq⟩ := hq
        refine hh_ist X h am_18 h3 dX9_lean_229 (fun σ4 H locs eσ4 h => ?_)
        have hq := hq σ4 eσ4
        refine lv_iinc (v := (x4 + (1 : Int32))) (lv' := [(4, .int (x4 + (1 : Int32))), (0, .ref (ad 0)), (3, .int x3)]) hx hb1 dX9_lean_230 hl (k := 2) rfl rfl (by decide) rfl (fun ls hl => ?_)
        refine lv_goto (tgt := 208) hx hb1 dX9_lean_233 (by decide) ?_
        exact ih (x4 + (1 : Int32)) σ4 _ _ ls hq h (lv_sub hl [1, 2, 0] rfl)
  have lt_178 : ∀ (x3 : Int32) (n : Nat) (x4 : Int32) (σ : hh_S) (H : Heap) (locs : List Loc) (ls : Array Slot), hh_lp1 (wq_X9_lean_178 x3 Q) n x4 σ → hh_H D hh_cl hm_Y cy ad s.heap σ H locs → lv_has ls 5 [(0, .ref (ad 0)), (3, .int x3), (4, .int x4)] → W p l e (headSpec wsX9_lean rm_X9_lean).room s m args below meth c H locs 0 0 (MQ below (va_Qi Q (hh_B D hh_cl hm_Y cy ad) (hh_A hm_Y ad)) args s 0 0 (hh_A hm_Y ad)) (F0 m 178 ls []) := by
    intro x3 n
    induction n with
    | zero => intro x4 σ H locs ls hq h hl; exact hq.elim
    | succ n ih =>
      intro x4 σ H locs ls hq h hl
      have hq : wq_X9_lean_178 x3 Q (hh_lp1 (wq_X9_lean_178 x3 Q) n) x4 σ := hq
      unfold wq_X9_lean_178 at hq
      refine lv_iload hx hb1 dX9_lean_178 (lv_at hl 2 rfl) ?_
      refine lv_bipush (v := (96 : Int32)) hx hb1 dX9_lean_180 (by decide) ?_
      refine lv_icmp_ge (tgt := 205) hx hb1 dX9_lean_182 (by decide) (fun c5 => ?_) (fun c5 => ?_)
      · have hq := hq.1 c5
        refine lv_iconst (v := (0 : Int32)) hx hb1 dX9_lean_205 (by decide) ?_
        refine lv_istore (lv' := [(4, .int (0 : Int32)), (0, .ref (ad 0)), (3, .int x3)]) hx hb1 dX9_lean_206 hl (by decide) rfl (fun ls hl => ?_)
        obtain ⟨n6, hq⟩ := hq
        exact lt_208 x3 n6 (0 : Int32) σ _ _ ls hq h (lv_sub hl [1, 2, 0] rfl)
      · have hq := hq.2 c5
        refine lv_aload_n hx hb1 dX9_lean_185 rfl (lv_at hl 0 rfl) ?_
        refine hh_getr X h fm_0_23 in_X9_lean_X9 km_0 (by decide) (List.mem_of_getElem? (i := 2) rfl) rfl dX9_lean_186 ?_
        refine lv_iload hx hb1 dX9_lean_189 (lv_at hl 2 rfl) ?_
        refine lv_aload_n hx hb1 dX9_lean_191 rfl (lv_at hl 0 rfl) ?_
        refine hh_getr X h fm_0_25 in_X9_lean_X9 km_0 (by decide) (List.mem_of_getElem? (i := 1) rfl) rfl dX9_lean_192 ?_
        refine lv_iload hx hb1 dX9_lean_195 (lv_at hl 2 rfl) ?_
        obtain ⟨h7, hq⟩ := hq
        refine hh_ild X h am_19 h7 dX9_lean_197 ?_
        obtain ⟨h8, hq⟩ := hq
        refine hh_ist X h am_17 h8 dX9_lean_198 (fun σ9 H locs eσ9 h => ?_)
        have hq := hq σ9 eσ9
        refine lv_iinc (v := (x4 + (1 : Int32))) (lv' := [(4, .int (x4 + (1 : Int32))), (0, .ref (ad 0)), (3, .int x3)]) hx hb1 dX9_lean_199 hl (k := 2) rfl rfl (by decide) rfl (fun ls hl => ?_)
        refine lv_goto (tgt := 178) hx hb1 dX9_lean_202 (by decide) ?_
        exact ih (x4 + (1 : Int32)) σ9 _ _ ls hq h (lv_sub hl [1, 2, 0] rfl)
  have lt_126 : ∀ (x1 : Int32) (x2 : Int32) (n : Nat) (x3 : Int32) (x4 : Int32) (σ : hh_S) (H : Heap) (locs : List Loc) (ls : Array Slot), hh_lp2 (wq_X9_lean_126 x1 x2 Q) n x3 x4 σ → hh_H D hh_cl hm_Y cy ad s.heap σ H locs → lv_has ls 5 [(0, .ref (ad 0)), (1, .int x1), (2, .int x2), (3, .int x3), (4, .int x4)] → W p l e (headSpec wsX9_lean rm_X9_lean).room s m args below meth c H locs 0 0 (MQ below (va_Qi Q (hh_B D hh_cl hm_Y cy ad) (hh_A hm_Y ad)) args s 0 0 (hh_A hm_Y ad)) (F0 m 126 ls []) := by
    intro x1 x2 n
    induction n with
    | zero => intro x3 x4 σ H locs ls hq h hl; exact hq.elim
    | succ n ih =>
      intro x3 x4 σ H locs ls hq h hl
      have hq : wq_X9_lean_126 x1 x2 Q (hh_lp2 (wq_X9_lean_126 x1 x2 Q) n) x3 x4 σ := hq
      unfold wq_X9_lean_126 at hq
      refine lv_iload hx hb1 dX9_lean_126 (lv_at hl 4 rfl) ?_
      refine lv_aload_n hx hb1 dX9_lean_128 rfl (lv_at hl 0 rfl) ?_
      refine hh_geti X h (q := 7) fm_0_7 rfl in_X9_lean_X9 km_0 (by decide) (List.mem_of_getElem? (i := 6) rfl) rfl dX9_lean_129 ?_
      refine lv_icmp_ge (tgt := 168) hx hb1 dX9_lean_132 (by decide) (fun c10 => ?_) (fun c10 => ?_)
      · have hq := hq.1 c10
        refine lv_aload_n hx hb1 dX9_lean_168 rfl (lv_at hl 0 rfl) ?_
        refine hh_getr X h fm_0_14 in_X9_lean_X9 km_0 (by decide) (List.mem_of_getElem? (i := 5) rfl) rfl dX9_lean_169 ?_
        refine lv_iload_n hx hb1 dX9_lean_172 rfl (lv_at hl 1 rfl) ?_
        refine lv_iload_n hx hb1 dX9_lean_173 rfl (lv_at hl 2 rfl) ?_
        obtain ⟨h11, hq⟩ := hq
        refine hh_zst X h am_11 h11 dX9_lean_174 (fun σ12 H locs eσ12 h => ?_)
        have hq := hq σ12 eσ12
        refine lv_iconst (v := (0 : Int32)) hx hb1 dX9_lean_175 (by decide) ?_
        refine lv_istore (lv' := [(4, .int (0 : Int32)), (0, .ref (ad 0)), (1, .int x1), (2, .int x2), (3, .int x3)]) hx hb1 dX9_lean_176 hl (by decide) rfl (fun ls hl => ?_)
        obtain ⟨n13, hq⟩ := hq
        exact lt_178 x3 n13 (0 : Int32) σ12 _ _ ls hq h (lv_sub hl [1, 4, 0] rfl)
      · have hq := hq.2 c10
        refine lv_iload_n hx hb1 dX9_lean_135 rfl (lv_at hl 3 rfl) ?_
        refine lv_aload_n hx hb1 dX9_lean_136 rfl (lv_at hl 0 rfl) ?_
        refine lv_iload hx hb1 dX9_lean_137 (lv_at hl 4 rfl) ?_
        refine hh_kI h (va_runV (As := [.int x4]) (rest := [.int x3]) X.1 (ad_X9_laidEnd (D := D) l J x4 σ _ hq) (cwV 1 X.1.2.2.2.2 gX9_lean_X9_laidEnd rfl rfl rfl nd_X9_laidEnd ⟨Nat.le_of_ble_eq_true rfl, Nat.le_of_ble_eq_true rfl⟩) (hh_preV X h fm_0_0 km_0 [.int x4]) rfl rfl hl.1 rfl (lv_room (Nat.le_of_ble_eq_true rfl)) dX9_lean_139 ⟨Nat.le_of_ble_eq_true rfl, Nat.le_of_ble_eq_true rfl⟩) (fun r14 σ15 H locs hq h => ?_)
        refine lv_aload_n hx hb1 dX9_lean_142 rfl (lv_at hl 0 rfl) ?_
        refine hh_getr X h fm_0_36 in_X9_lean_X9 km_0 (by decide) (List.mem_of_getElem? (i := 7) rfl) rfl dX9_lean_143 ?_
        refine lv_iload hx hb1 dX9_lean_146 (lv_at hl 4 rfl) ?_
        obtain ⟨h16, hq⟩ := hq
        refine hh_ild X h am_27 h16 dX9_lean_148 ?_
        refine lv_icmp_ne (tgt := 156) hx hb1 dX9_lean_149 (by decide) (fun c17 => ?_) (fun c17 => ?_)
        · have hq := hq.1 c17
          refine lv_iconst (v := (1 : Int32)) hx hb1 dX9_lean_156 (by decide) ?_
          refine lv_iload hx hb1 dX9_lean_157 (lv_at hl 4 rfl) ?_
          refine lv_ishl hx hb1 dX9_lean_159 ?_
          refine lv_ior hx hb1 dX9_lean_160 ?_
          refine lv_topi (fun v18 ev18 => ?_)
          have hq := hq v18 ev18
          refine lv_istore_n (lv' := [(3, .int v18), (0, .ref (ad 0)), (1, .int x1), (2, .int x2), (4, .int x4)]) hx hb1 dX9_lean_161 rfl hl (by decide) rfl (fun ls hl => ?_)
          refine lv_iinc (v := (x4 + (1 : Int32))) (lv' := [(4, .int (x4 + (1 : Int32))), (3, .int v18), (0, .ref (ad 0)), (1, .int x1), (2, .int x2)]) hx hb1 dX9_lean_162 hl (k := 4) rfl rfl (by decide) rfl (fun ls hl => ?_)
          refine lv_goto (tgt := 126) hx hb1 dX9_lean_165 (by decide) ?_
          exact ih v18 (x4 + (1 : Int32)) σ15 _ _ ls hq h (lv_sub hl [2, 3, 4, 1, 0] rfl)
        · have hq := hq.2 c17
          refine lv_iconst (v := (0 : Int32)) hx hb1 dX9_lean_152 (by decide) ?_
          refine lv_goto (tgt := 160) hx hb1 dX9_lean_153 (by decide) ?_
          refine lv_ior hx hb1 dX9_lean_160 ?_
          refine lv_topi (fun v19 ev19 => ?_)
          have hq := hq v19 ev19
          refine lv_istore_n (lv' := [(3, .int v19), (0, .ref (ad 0)), (1, .int x1), (2, .int x2), (4, .int x4)]) hx hb1 dX9_lean_161 rfl hl (by decide) rfl (fun ls hl => ?_)
          refine lv_iinc (v := (x4 + (1 : Int32))) (lv' := [(4, .int (x4 + (1 : Int32))), (3, .int v19), (0, .ref (ad 0)), (1, .int x1), (2, .int x2)]) hx hb1 dX9_lean_162 hl (k := 4) rfl rfl (by decide) rfl (fun ls hl => ?_)
          refine lv_goto (tgt := 126) hx hb1 dX9_lean_165 (by decide) ?_
          exact ih v19 (x4 + (1 : Int32)) σ15 _ _ ls hq h (lv_sub hl [2, 3, 4, 1, 0] rfl)
  have lt_84 : ∀ (x1 : Int32) (x2 : Int32) (n : Nat) (x3 : Int32) (σ : hh_S) (H : Heap) (locs : List Loc) (ls : Array Slot), hh_lp1 (wq_X9_lean_84 x1 x2 Q) n x3 σ → hh_H D hh_cl hm_Y cy ad s.heap σ H locs → lv_has ls 5 [(0, .ref (ad 0)), (1, .int x1), (2, .int x2), (3, .int x3)] → W p l e (headSpec wsX9_lean rm_X9_lean).room s m args below meth c H locs 0 0 (MQ below (va_Qi Q (hh_B D hh_cl hm_Y cy ad) (hh_A hm_Y ad)) args s 0 0 (hh_A hm_Y ad)) (F0 m 84 ls []) := by
    intro x1 x2 n
    induction n with
    | zero => intro x3 σ H locs ls hq h hl; exact hq.elim
    | succ n ih =>
      intro x3 σ H locs ls hq h hl
      have hq : wq_X9_lean_84 x1 x2 Q (hh_lp1 (wq_X9_lean_84 x1 x2 Q) n) x3 σ := hq
      unfold wq_X9_lean_84 at hq
      refine lv_iload_n hx hb1 dX9_lean_84 rfl (lv_at hl 3 rfl) ?_
      refine lv_aload_n hx hb1 dX9_lean_85 rfl (lv_at hl 0 rfl) ?_
      refine hh_geti X h (q := 7) fm_0_7 rfl in_X9_lean_X9 km_0 (by decide) (List.mem_of_getElem? (i := 6) rfl) rfl dX9_lean_86 ?_
      refine lv_icmp_ge (tgt := 109) hx hb1 dX9_lean_89 (by decide) (fun c20 => ?_) (fun c20 => ?_)
      · have hq := hq.1 c20
        refine lv_aload_n hx hb1 dX9_lean_109 rfl (lv_at hl 0 rfl) ?_
        refine hh_getr X h fm_0_14 in_X9_lean_X9 km_0 (by decide) (List.mem_of_getElem? (i := 5) rfl) rfl dX9_lean_110 ?_
        refine lv_iload_n hx hb1 dX9_lean_113 rfl (lv_at hl 1 rfl) ?_
        refine lv_iconst (v := (1 : Int32)) hx hb1 dX9_lean_114 (by decide) ?_
        obtain ⟨h21, hq⟩ := hq
        refine hh_zst X h am_11 h21 dX9_lean_115 (fun σ22 H locs eσ22 h => ?_)
        have hq := hq σ22 eσ22
        refine lv_aload_n hx hb1 dX9_lean_116 rfl (lv_at hl 0 rfl) ?_
        refine hh_kI h (va_runV (As := []) (rest := []) X.1 (ad_X9_joinAll (D := D) l J σ22 _ hq) (cwV 0 X.1.2.2.2.2 gX9_lean_X9_joinAll rfl rfl rfl nd_X9_joinAll ⟨Nat.le_of_ble_eq_true rfl, Nat.le_of_ble_eq_true rfl⟩) (hh_preV X h fm_0_0 km_0 []) rfl rfl hl.1 rfl (lv_room (Nat.le_of_ble_eq_true rfl)) dX9_lean_117 ⟨Nat.le_of_ble_eq_true rfl, Nat.le_of_ble_eq_true rfl⟩) (fun r23 σ24 H locs hq h => ?_)
        refine lv_pop hx hb1 dX9_lean_120 rfl ?_
        refine lv_iconst (v := (0 : Int32)) hx hb1 dX9_lean_121 (by decide) ?_
        refine lv_istore_n (lv' := [(3, .int (0 : Int32)), (0, .ref (ad 0)), (1, .int x1), (2, .int x2)]) hx hb1 dX9_lean_122 rfl hl (by decide) rfl (fun ls hl => ?_)
        refine lv_iconst (v := (0 : Int32)) hx hb1 dX9_lean_123 (by decide) ?_
        refine lv_istore (lv' := [(4, .int (0 : Int32)), (3, .int (0 : Int32)), (0, .ref (ad 0)), (1, .int x1), (2, .int x2)]) hx hb1 dX9_lean_124 hl (by decide) rfl (fun ls hl => ?_)
        obtain ⟨n25, hq⟩ := hq
        exact lt_126 x1 x2 n25 (0 : Int32) (0 : Int32) σ24 _ _ ls hq h (lv_sub hl [2, 3, 4, 1, 0] rfl)
      · have hq := hq.2 c20
        refine lv_aload_n hx hb1 dX9_lean_92 rfl (lv_at hl 0 rfl) ?_
        refine hh_getr X h fm_0_36 in_X9_lean_X9 km_0 (by decide) (List.mem_of_getElem? (i := 7) rfl) rfl dX9_lean_93 ?_
        refine lv_iload_n hx hb1 dX9_lean_96 rfl (lv_at hl 3 rfl) ?_
        refine lv_aload_n hx hb1 dX9_lean_97 rfl (lv_at hl 0 rfl) ?_
        refine lv_iload_n hx hb1 dX9_lean_98 rfl (lv_at hl 3 rfl) ?_
        refine hh_kI h (va_runV (As := [.int x3]) (rest := [.int x3, .ref (ad 27)]) X.1 (ad_X9_laidEnd (D := D) l J x3 σ _ hq) (cwV 1 X.1.2.2.2.2 gX9_lean_X9_laidEnd rfl rfl rfl nd_X9_laidEnd ⟨Nat.le_of_ble_eq_true rfl, Nat.le_of_ble_eq_true rfl⟩) (hh_preV X h fm_0_0 km_0 [.int x3]) rfl rfl hl.1 rfl (lv_room (Nat.le_of_ble_eq_true rfl)) dX9_lean_99 ⟨Nat.le_of_ble_eq_true rfl, Nat.le_of_ble_eq_true rfl⟩) (fun r26 σ27 H locs hq h => ?_)
        obtain ⟨h28, hq⟩ := hq
        refine hh_ist X h am_27 h28 dX9_lean_102 (fun σ29 H locs eσ29 h => ?_)
        have hq := hq σ29 eσ29
        refine lv_iinc (v := (x3 + (1 : Int32))) (lv' := [(3, .int (x3 + (1 : Int32))), (0, .ref (ad 0)), (1, .int x1), (2, .int x2)]) hx hb1 dX9_lean_103 hl (k := 3) rfl rfl (by decide) rfl (fun ls hl => ?_)
        refine lv_goto (tgt := 84) hx hb1 dX9_lean_106 (by decide) ?_
        exact ih (x3 + (1 : Int32)) σ29 _ _ ls hq h (lv_sub hl [1, 2, 3, 0] rfl)
  have lt_38 : ∀ (x1 : Int32) (n : Nat) (x2 : Int32) (σ : hh_S) (H : Heap) (locs : List Loc) (ls : Array Slot), hh_lp1 (wq_X9_lean_38 x1 Q) n x2 σ → hh_H D hh_cl hm_Y cy ad s.heap σ H locs → lv_has ls 5 [(0, .ref (ad 0)), (1, .int x1), (2, .int x2)] → W p l e (headSpec wsX9_lean rm_X9_lean).room s m args below meth c H locs 0 0 (MQ below (va_Qi Q (hh_B D hh_cl hm_Y cy ad) (hh_A hm_Y ad)) args s 0 0 (hh_A hm_Y ad)) (F0 m 38 ls []) := by
    intro x1 n
    induction n with
    | zero => intro x2 σ H locs ls hq h hl; exact hq.elim
    | succ n ih =>
      intro x2 σ H locs ls hq h hl
      have hq : wq_X9_lean_38 x1 Q (hh_lp1 (wq_X9_lean_38 x1 Q) n) x2 σ := hq
      unfold wq_X9_lean_38 at hq
      refine lv_iload_n hx hb1 dX9_lean_38 rfl (lv_at hl 2 rfl) ?_
      refine lv_sipush (v := (480 : Int32)) hx hb1 dX9_lean_39 (by decide) ?_
      refine lv_icmp_ge (tgt := 63) hx hb1 dX9_lean_42 (by decide) (fun c30 => ?_) (fun c30 => ?_)
      · have hq := hq.1 c30
        refine lv_aload_n hx hb1 dX9_lean_63 rfl (lv_at hl 0 rfl) ?_
        refine hh_getr X h fm_0_14 in_X9_lean_X9 km_0 (by decide) (List.mem_of_getElem? (i := 5) rfl) rfl dX9_lean_64 ?_
        refine lv_iload_n hx hb1 dX9_lean_67 rfl (lv_at hl 1 rfl) ?_
        obtain ⟨h31, hq⟩ := hq
        refine hh_zld X h am_11 h31 dX9_lean_68 ?_
        refine lv_topi (fun v32 ev32 => ?_)
        have hq := hq v32 ev32
        refine lv_istore_n (lv' := [(2, .int v32), (0, .ref (ad 0)), (1, .int x1)]) hx hb1 dX9_lean_69 rfl hl (by decide) rfl (fun ls hl => ?_)
        refine lv_aload_n hx hb1 dX9_lean_70 rfl (lv_at hl 1 rfl) ?_
        refine hh_getr X h fm_0_14 in_X9_lean_X9 km_0 (by decide) (List.mem_of_getElem? (i := 5) rfl) rfl dX9_lean_71 ?_
        refine lv_iload_n hx hb1 dX9_lean_74 rfl (lv_at hl 2 rfl) ?_
        refine lv_iconst (v := (0 : Int32)) hx hb1 dX9_lean_75 (by decide) ?_
        obtain ⟨h33, hq⟩ := hq
        refine hh_zst X h am_11 h33 dX9_lean_76 (fun σ34 H locs eσ34 h => ?_)
        have hq := hq σ34 eσ34
        refine lv_aload_n hx hb1 dX9_lean_77 rfl (lv_at hl 1 rfl) ?_
        refine hh_kI h (va_runV (As := []) (rest := []) X.1 (ad_X9_joinAll (D := D) l J σ34 _ hq) (cwV 0 X.1.2.2.2.2 gX9_lean_X9_joinAll rfl rfl rfl nd_X9_joinAll ⟨Nat.le_of_ble_eq_true rfl, Nat.le_of_ble_eq_true rfl⟩) (hh_preV X h fm_0_0 km_0 []) rfl rfl hl.1 rfl (lv_room (Nat.le_of_ble_eq_true rfl)) dX9_lean_78 ⟨Nat.le_of_ble_eq_true rfl, Nat.le_of_ble_eq_true rfl⟩) (fun r35 σ36 H locs hq h => ?_)
        refine lv_pop hx hb1 dX9_lean_81 rfl ?_
        refine lv_iconst (v := (0 : Int32)) hx hb1 dX9_lean_82 (by decide) ?_
        refine lv_istore_n (lv' := [(3, .int (0 : Int32)), (2, .int v32), (0, .ref (ad 0)), (1, .int x1)]) hx hb1 dX9_lean_83 rfl hl (by decide) rfl (fun ls hl => ?_)
        obtain ⟨n37, hq⟩ := hq
        exact lt_84 x1 v32 n37 (0 : Int32) σ36 _ _ ls hq h (lv_sub hl [2, 3, 1, 0] rfl)
      · have hq := hq.2 c30
        refine lv_aload_n hx hb1 dX9_lean_45 rfl (lv_at hl 0 rfl) ?_
        refine hh_getr X h fm_0_26 in_X9_lean_X9 km_0 (by decide) (List.mem_of_getElem? (i := 3) rfl) rfl dX9_lean_46 ?_
        refine lv_iload_n hx hb1 dX9_lean_49 rfl (lv_at hl 2 rfl) ?_
        refine lv_aload_n hx hb1 dX9_lean_50 rfl (lv_at hl 0 rfl) ?_
        refine hh_getr X h fm_0_24 in_X9_lean_X9 km_0 (by decide) (List.mem_of_getElem? (i := 4) rfl) rfl dX9_lean_51 ?_
        refine lv_iload_n hx hb1 dX9_lean_54 rfl (lv_at hl 2 rfl) ?_
        obtain ⟨h38, hq⟩ := hq
        refine hh_ild X h am_18 h38 dX9_lean_55 ?_
        obtain ⟨h39, hq⟩ := hq
        refine hh_ist X h am_20 h39 dX9_lean_56 (fun σ40 H locs eσ40 h => ?_)
        have hq := hq σ40 eσ40
        refine lv_iinc (v := (x2 + (1 : Int32))) (lv' := [(2, .int (x2 + (1 : Int32))), (0, .ref (ad 0)), (1, .int x1)]) hx hb1 dX9_lean_57 hl (k := 2) rfl rfl (by decide) rfl (fun ls hl => ?_)
        refine lv_goto (tgt := 38) hx hb1 dX9_lean_60 (by decide) ?_
        exact ih (x2 + (1 : Int32)) σ40 _ _ ls hq h (lv_sub hl [1, 2, 0] rfl)
  have lt_12 : ∀ (x1 : Int32) (n : Nat) (x2 : Int32) (σ : hh_S) (H : Heap) (locs : List Loc) (ls : Array Slot), hh_lp1 (wq_X9_lean_12 x1 Q) n x2 σ → hh_H D hh_cl hm_Y cy ad s.heap σ H locs → lv_has ls 5 [(0, .ref (ad 0)), (1, .int x1), (2, .int x2)] → W p l e (headSpec wsX9_lean rm_X9_lean).room s m args below meth c H locs 0 0 (MQ below (va_Qi Q (hh_B D hh_cl hm_Y cy ad) (hh_A hm_Y ad)) args s 0 0 (hh_A hm_Y ad)) (F0 m 12 ls []) := by
    intro x1 n
    induction n with
    | zero => intro x2 σ H locs ls hq h hl; exact hq.elim
    | succ n ih =>
      intro x2 σ H locs ls hq h hl
      have hq : wq_X9_lean_12 x1 Q (hh_lp1 (wq_X9_lean_12 x1 Q) n) x2 σ := hq
      unfold wq_X9_lean_12 at hq
      refine lv_iload_n hx hb1 dX9_lean_12 rfl (lv_at hl 2 rfl) ?_
      refine lv_bipush (v := (96 : Int32)) hx hb1 dX9_lean_13 (by decide) ?_
      refine lv_icmp_ge (tgt := 36) hx hb1 dX9_lean_15 (by decide) (fun c41 => ?_) (fun c41 => ?_)
      · have hq := hq.1 c41
        refine lv_iconst (v := (0 : Int32)) hx hb1 dX9_lean_36 (by decide) ?_
        refine lv_istore_n (lv' := [(2, .int (0 : Int32)), (0, .ref (ad 0)), (1, .int x1)]) hx hb1 dX9_lean_37 rfl hl (by decide) rfl (fun ls hl => ?_)
        obtain ⟨n42, hq⟩ := hq
        exact lt_38 x1 n42 (0 : Int32) σ _ _ ls hq h (lv_sub hl [1, 2, 0] rfl)
      · have hq := hq.2 c41
        refine lv_aload_n hx hb1 dX9_lean_18 rfl (lv_at hl 0 rfl) ?_
        refine hh_getr X h fm_0_25 in_X9_lean_X9 km_0 (by decide) (List.mem_of_getElem? (i := 1) rfl) rfl dX9_lean_19 ?_
        refine lv_iload_n hx hb1 dX9_lean_22 rfl (lv_at hl 2 rfl) ?_
        refine lv_aload_n hx hb1 dX9_lean_23 rfl (lv_at hl 0 rfl) ?_
        refine hh_getr X h fm_0_23 in_X9_lean_X9 km_0 (by decide) (List.mem_of_getElem? (i := 2) rfl) rfl dX9_lean_24 ?_
        refine lv_iload_n hx hb1 dX9_lean_27 rfl (lv_at hl 2 rfl) ?_
        obtain ⟨h43, hq⟩ := hq
        refine hh_ild X h am_17 h43 dX9_lean_28 ?_
        obtain ⟨h44, hq⟩ := hq
        refine hh_ist X h am_19 h44 dX9_lean_29 (fun σ45 H locs eσ45 h => ?_)
        have hq := hq σ45 eσ45
        refine lv_iinc (v := (x2 + (1 : Int32))) (lv' := [(2, .int (x2 + (1 : Int32))), (0, .ref (ad 0)), (1, .int x1)]) hx hb1 dX9_lean_30 hl (k := 2) rfl rfl (by decide) rfl (fun ls hl => ?_)
        refine lv_goto (tgt := 12) hx hb1 dX9_lean_33 (by decide) ?_
        exact ih (x2 + (1 : Int32)) σ45 _ _ ls hq h (lv_sub hl [1, 2, 0] rfl)
  subst hargs
  refine hh_entry (vs := [.ref (ad 0), .int x1]) (Nat.le_of_ble_eq_true rfl) (fun ls hl => ?_)
  have hl : lv_has ls 5 [(0, .ref (ad 0)), (1, .int x1)] := hl
  have hq : wp_X9_lean x1 σ Q := hq
  unfold wp_X9_lean at hq
  refine lv_aload_n hx hb1 dX9_lean_0 rfl (lv_at hl 0 rfl) ?_
  refine lv_iload_n hx hb1 dX9_lean_1 rfl (lv_at hl 1 rfl) ?_
  refine hh_kI h (va_runV (As := [.int x1]) (rest := []) X.1 (ad_X9_isHand (D := D) l J x1 σ _ hq) (cwV 1 X.1.2.2.2.2 gX9_lean_X9_isHand rfl rfl rfl nd_X9_isHand ⟨Nat.le_of_ble_eq_true rfl, Nat.le_of_ble_eq_true rfl⟩) (hh_preV X h fm_0_0 km_0 [.int x1]) rfl rfl hl.1 rfl (lv_room (Nat.le_of_ble_eq_true rfl)) dX9_lean_2 ⟨Nat.le_of_ble_eq_true rfl, Nat.le_of_ble_eq_true rfl⟩) (fun r46 σ47 H locs hq h => ?_)
  refine lv_if_ne (tgt := 10) hx hb1 dX9_lean_5 (by decide) (fun c48 => ?_) (fun c48 => ?_)
  · have hq := hq.1 c48
    refine lv_iconst (v := (0 : Int32)) hx hb1 dX9_lean_10 (by decide) ?_
    refine lv_istore_n (lv' := [(2, .int (0 : Int32)), (0, .ref (ad 0)), (1, .int x1)]) hx hb1 dX9_lean_11 rfl hl (by decide) rfl (fun ls hl => ?_)
    obtain ⟨n49, hq⟩ := hq
    exact lt_12 x1 n49 (0 : Int32) σ47 _ _ ls hq h (lv_sub hl [1, 2, 0] rfl)
  · have hq := hq.2 c48
    refine lv_iconst (v := (-1 : Int32)) hx hb1 dX9_lean_8 (by decide) ?_
    exact hh_iret X h hr hlocks hq dX9_lean_9
theorem nd_X9_coins : yX9_coins.cls = RX9 ∧ yX9_coins.cls ≠ "java/lang/invoke/MethodHandle" ∧ yX9_coins.cls ≠ "java/lang/invoke/VarHandle" ∧ (parseMethodDescriptor yX9_coins.desc).map (fun d => d.parameters.length) = some 1 := by decide +kernel
abbrev rm_X9_coins : Room := { frames := 2, cells := 0, slots := 0, locals := 45 }
def wp_X9_coins (x1 : Int32) (σ : hh_S) (Q : Int32 → hh_S → Prop) : Prop := (wp_X9_isHand x1 σ (fun (r1 : Int32) (σ2 : hh_S) => ((¬ r1 = 0 → (wp_X9_answersBy x1 σ2 (fun (r4 : Int32) (σ5 : hh_S) => (wp_X9_rightBy x1 σ5 (fun (r6 : Int32) (σ7 : hh_S) => (wp_X9_knownBy x1 σ7 (fun (r8 : Int32) (σ9 : hh_S) => (wp_X9_rightBy x1 σ9 (fun (r10 : Int32) (σ11 : hh_S) => (∀ v12 : Int32, v12 = ((((hh_rA σ2 14 (3 : Int32)) * r4) + ((hh_rA σ5 14 (4 : Int32)) * r6)) - ((hh_rA σ7 14 (5 : Int32)) * (r8 - r10))) → ((0 ≤ v12 → (Q v12 σ11)) ∧ (¬ 0 ≤ v12 → (Q (0 : Int32) σ11))))))))))))) ∧ (r1 = 0 → (Q (-1 : Int32) σ2)))))
theorem in_X9_coins_X9 : ∀ w ∈ u_ws RX9 TX9 37, w ∈ wsX9_coins := fun w h => List.mem_cons_of_mem _ (List.mem_append_right _ h)
set_option maxHeartbeats 4000000 in
set_option maxRecDepth 100000 in
theorem ad_X9_coins {D : va_G} (l : Launch) {cy : Nat → ClassId} {ad : Nat → Nat} (J : hh_J hm_Y ad) (x1 : Int32) (σ : hh_S) (Q : Int32 → hh_S → Prop) (hq : wp_X9_coins x1 σ Q) : Met l yX9_coins wsX9_coins rm_X9_coins (va_Pc [.ref (ad 0), .int x1] (hh_B D hh_cl hm_Y cy ad σ)) (va_Qi Q (hh_B D hh_cl hm_Y cy ad) (hh_A hm_Y ad)) 0 0 (hh_A hm_Y ad) := by
  refine Met.ofW (cc := cX9_coins) (maxL := 3) (ret := (some .int)) (by decide) rfl ?_
  intro p e s m args below meth c s₁ B hml hv
  obtain ⟨hargs, hP0, hK0⟩ := hv
  have hr := B.returns
  have hlocks := B.notSynchronized
  have X : hh_X p m c cX9_coins 3 s args wsX9_coins RX9 D hh_cl hm_Y cy ad := ⟨⟨B.exec, B.bytes, hml, findClass_of_methodNamed B.named, atoms_spec (ws := wsX9_coins) B.pre⟩, hK0, J⟩
  have hx := X.1.1
  have hb1 := X.1.2.1
  have h : hh_H D hh_cl hm_Y cy ad s.heap σ s.heap [] := ⟨hP0, va_S.rf⟩
  subst hargs
  refine hh_entry (vs := [.ref (ad 0), .int x1]) (Nat.le_of_ble_eq_true rfl) (fun ls hl => ?_)
  have hl : lv_has ls 3 [(0, .ref (ad 0)), (1, .int x1)] := hl
  have hq : wp_X9_coins x1 σ Q := hq
  unfold wp_X9_coins at hq
  refine lv_aload_n hx hb1 dX9_coins_0 rfl (lv_at hl 0 rfl) ?_
  refine lv_iload_n hx hb1 dX9_coins_1 rfl (lv_at hl 1 rfl) ?_
  refine hh_kI h (va_runV (As := [.int x1]) (rest := []) X.1 (ad_X9_isHand (D := D) l J x1 σ _ hq) (cwV 1 X.1.2.2.2.2 gX9_coins_X9_isHand rfl rfl rfl nd_X9_isHand ⟨Nat.le_of_ble_eq_true rfl, Nat.le_of_ble_eq_true rfl⟩) (hh_preV X h fm_0_0 km_0 [.int x1]) rfl rfl hl.1 rfl (lv_room (Nat.le_of_ble_eq_true rfl)) dX9_coins_2 ⟨Nat.le_of_ble_eq_true rfl, Nat.le_of_ble_eq_true rfl⟩) (fun r1 σ2 H locs hq h => ?_)
  refine lv_if_ne (tgt := 10) hx hb1 dX9_coins_5 (by decide) (fun c3 => ?_) (fun c3 => ?_)
  · have hq := hq.1 c3
    refine lv_aload_n hx hb1 dX9_coins_10 rfl (lv_at hl 0 rfl) ?_
    refine hh_getr X h fm_0_17 in_X9_coins_X9 km_0 (by decide) (List.mem_of_getElem? (i := 1) rfl) rfl dX9_coins_11 ?_
    refine lv_iconst (v := (3 : Int32)) hx hb1 dX9_coins_14 (by decide) ?_
    refine hh_ild X h am_14 (vp_in_iff.mpr (by decide)) dX9_coins_15 ?_
    refine lv_aload_n hx hb1 dX9_coins_16 rfl (lv_at hl 0 rfl) ?_
    refine lv_iload_n hx hb1 dX9_coins_17 rfl (lv_at hl 1 rfl) ?_
    refine hh_kI h (va_runV (As := [.int x1]) (rest := [.int (hh_rA σ2 14 (3 : Int32))]) X.1 (ad_X9_answersBy (D := D) l J x1 σ2 _ hq) (cwV 1 X.1.2.2.2.2 gX9_coins_X9_answersBy rfl rfl rfl nd_X9_answersBy ⟨Nat.le_of_ble_eq_true rfl, Nat.le_of_ble_eq_true rfl⟩) (hh_preV X h fm_0_0 km_0 [.int x1]) rfl rfl hl.1 rfl (lv_room (Nat.le_of_ble_eq_true rfl)) dX9_coins_18 ⟨Nat.le_of_ble_eq_true rfl, Nat.le_of_ble_eq_true rfl⟩) (fun r4 σ5 H locs hq h => ?_)
    refine lv_imul hx hb1 dX9_coins_21 ?_
    refine lv_aload_n hx hb1 dX9_coins_22 rfl (lv_at hl 0 rfl) ?_
    refine hh_getr X h fm_0_17 in_X9_coins_X9 km_0 (by decide) (List.mem_of_getElem? (i := 1) rfl) rfl dX9_coins_23 ?_
    refine lv_iconst (v := (4 : Int32)) hx hb1 dX9_coins_26 (by decide) ?_
    refine hh_ild X h am_14 (vp_in_iff.mpr (by decide)) dX9_coins_27 ?_
    refine lv_aload_n hx hb1 dX9_coins_28 rfl (lv_at hl 0 rfl) ?_
    refine lv_iload_n hx hb1 dX9_coins_29 rfl (lv_at hl 1 rfl) ?_
    refine hh_kI h (va_runV (As := [.int x1]) (rest := [.int (hh_rA σ5 14 (4 : Int32)), .int ((hh_rA σ2 14 (3 : Int32)) * r4)]) X.1 (ad_X9_rightBy (D := D) l J x1 σ5 _ hq) (cwV 1 X.1.2.2.2.2 gX9_coins_X9_rightBy rfl rfl rfl nd_X9_rightBy ⟨Nat.le_of_ble_eq_true rfl, Nat.le_of_ble_eq_true rfl⟩) (hh_preV X h fm_0_0 km_0 [.int x1]) rfl rfl hl.1 rfl (lv_room (Nat.le_of_ble_eq_true rfl)) dX9_coins_30 ⟨Nat.le_of_ble_eq_true rfl, Nat.le_of_ble_eq_true rfl⟩) (fun r6 σ7 H locs hq h => ?_)
    refine lv_imul hx hb1 dX9_coins_33 ?_
    refine lv_iadd hx hb1 dX9_coins_34 ?_
    refine lv_aload_n hx hb1 dX9_coins_35 rfl (lv_at hl 0 rfl) ?_
    refine hh_getr X h fm_0_17 in_X9_coins_X9 km_0 (by decide) (List.mem_of_getElem? (i := 1) rfl) rfl dX9_coins_36 ?_
    refine lv_iconst (v := (5 : Int32)) hx hb1 dX9_coins_39 (by decide) ?_
    refine hh_ild X h am_14 (vp_in_iff.mpr (by decide)) dX9_coins_40 ?_
    refine lv_aload_n hx hb1 dX9_coins_41 rfl (lv_at hl 0 rfl) ?_
    refine lv_iload_n hx hb1 dX9_coins_42 rfl (lv_at hl 1 rfl) ?_
    refine hh_kI h (va_runV (As := [.int x1]) (rest := [.int (hh_rA σ7 14 (5 : Int32)), .int (((hh_rA σ2 14 (3 : Int32)) * r4) + ((hh_rA σ5 14 (4 : Int32)) * r6))]) X.1 (ad_X9_knownBy (D := D) l J x1 σ7 _ hq) (cwV 1 X.1.2.2.2.2 gX9_coins_X9_knownBy rfl rfl rfl nd_X9_knownBy ⟨Nat.le_of_ble_eq_true rfl, Nat.le_of_ble_eq_true rfl⟩) (hh_preV X h fm_0_0 km_0 [.int x1]) rfl rfl hl.1 rfl (lv_room (Nat.le_of_ble_eq_true rfl)) dX9_coins_43 ⟨Nat.le_of_ble_eq_true rfl, Nat.le_of_ble_eq_true rfl⟩) (fun r8 σ9 H locs hq h => ?_)
    refine lv_aload_n hx hb1 dX9_coins_46 rfl (lv_at hl 0 rfl) ?_
    refine lv_iload_n hx hb1 dX9_coins_47 rfl (lv_at hl 1 rfl) ?_
    refine hh_kI h (va_runV (As := [.int x1]) (rest := [.int r8, .int (hh_rA σ7 14 (5 : Int32)), .int (((hh_rA σ2 14 (3 : Int32)) * r4) + ((hh_rA σ5 14 (4 : Int32)) * r6))]) X.1 (ad_X9_rightBy (D := D) l J x1 σ9 _ hq) (cwV 1 X.1.2.2.2.2 gX9_coins_X9_rightBy rfl rfl rfl nd_X9_rightBy ⟨Nat.le_of_ble_eq_true rfl, Nat.le_of_ble_eq_true rfl⟩) (hh_preV X h fm_0_0 km_0 [.int x1]) rfl rfl hl.1 rfl (lv_room (Nat.le_of_ble_eq_true rfl)) dX9_coins_48 ⟨Nat.le_of_ble_eq_true rfl, Nat.le_of_ble_eq_true rfl⟩) (fun r10 σ11 H locs hq h => ?_)
    refine lv_isub hx hb1 dX9_coins_51 ?_
    refine lv_imul hx hb1 dX9_coins_52 ?_
    refine lv_isub hx hb1 dX9_coins_53 ?_
    refine lv_topi (fun v12 ev12 => ?_)
    have hq := hq v12 ev12
    refine lv_istore_n (lv' := [(2, .int v12), (0, .ref (ad 0)), (1, .int x1)]) hx hb1 dX9_coins_54 rfl hl (by decide) rfl (fun ls hl => ?_)
    refine lv_iload_n hx hb1 dX9_coins_55 rfl (lv_at hl 0 rfl) ?_
    refine lv_if_ge (tgt := 63) hx hb1 dX9_coins_56 (by decide) (fun c13 => ?_) (fun c13 => ?_)
    · have hq := hq.1 c13
      refine lv_iload_n hx hb1 dX9_coins_63 rfl (lv_at hl 0 rfl) ?_
      exact hh_iret X h hr hlocks hq dX9_coins_64
    · have hq := hq.2 c13
      refine lv_iconst (v := (0 : Int32)) hx hb1 dX9_coins_59 (by decide) ?_
      refine lv_goto (tgt := 64) hx hb1 dX9_coins_60 (by decide) ?_
      exact hh_iret X h hr hlocks hq dX9_coins_64
  · have hq := hq.2 c3
    refine lv_iconst (v := (-1 : Int32)) hx hb1 dX9_coins_8 (by decide) ?_
    exact hh_iret X h hr hlocks hq dX9_coins_9
theorem nd_X9_isPay : yX9_isPay.cls ≠ "java/lang/invoke/MethodHandle" ∧ yX9_isPay.cls ≠ "java/lang/invoke/VarHandle" ∧ (parseMethodDescriptor yX9_isPay.desc).map (fun d => d.parameters.length) = some 1 := by decide +kernel
abbrev rm_X9_isPay : Room := { frames := 1, cells := 0, slots := 0, locals := 22 }
def wp_X9_isPay (x0 : Int32) (σ : hh_S) (Q : Int32 → hh_S → Prop) : Prop := (wp_X9_in x0 (-1000 : Int32) (1000 : Int32) σ (fun (r1 : Int32) (σ2 : hh_S) => ((narrow .boolean (.int r1) = .int r1) ∧ Q r1 σ2)))
set_option maxHeartbeats 4000000 in
set_option maxRecDepth 100000 in
theorem ad_X9_isPay {D : va_G} (l : Launch) {cy : Nat → ClassId} {ad : Nat → Nat} (J : hh_J hm_Y ad) (x0 : Int32) (σ : hh_S) (Q : Int32 → hh_S → Prop) (hq : wp_X9_isPay x0 σ Q) : Met l yX9_isPay wsX9_isPay rm_X9_isPay (va_Pc [.int x0] (hh_B D hh_cl hm_Y cy ad σ)) (va_Qi Q (hh_B D hh_cl hm_Y cy ad) (hh_A hm_Y ad)) 0 0 (hh_A hm_Y ad) := by
  refine Met.ofW (cc := cX9_isPay) (maxL := 1) (ret := (some .boolean)) (by decide) rfl ?_
  intro p e s m args below meth c s₁ B hml hv
  obtain ⟨hargs, hP0, hK0⟩ := hv
  have hr := B.returns
  have hlocks := B.notSynchronized
  have X : hh_X p m c cX9_isPay 1 s args wsX9_isPay RX9 D hh_cl hm_Y cy ad := ⟨⟨B.exec, B.bytes, hml, findClass_of_methodNamed B.named, atoms_spec (ws := wsX9_isPay) B.pre⟩, hK0, J⟩
  have hx := X.1.1
  have hb1 := X.1.2.1
  have h : hh_H D hh_cl hm_Y cy ad s.heap σ s.heap [] := ⟨hP0, va_S.rf⟩
  subst hargs
  refine hh_entry (vs := [.int x0]) (Nat.le_of_ble_eq_true rfl) (fun ls hl => ?_)
  have hl : lv_has ls 1 [(0, .int x0)] := hl
  have hq : wp_X9_isPay x0 σ Q := hq
  unfold wp_X9_isPay at hq
  refine lv_iload_n hx hb1 dX9_isPay_0 rfl (lv_at hl 0 rfl) ?_
  refine lv_sipush (v := (-1000 : Int32)) hx hb1 dX9_isPay_1 (by decide) ?_
  refine lv_sipush (v := (1000 : Int32)) hx hb1 dX9_isPay_4 (by decide) ?_
  refine hh_kI h (va_runS (As := [.int x0, .int (-1000 : Int32), .int (1000 : Int32)]) (rest := []) X.1 (ad_X9_in (D := D) l J x0 (-1000 : Int32) (1000 : Int32) σ _ hq) (va_cwS 3 X.1.2.2.2.2 gX9_isPay_X9_in rfl rfl rfl nd_X9_in ⟨Nat.le_of_ble_eq_true rfl, Nat.le_of_ble_eq_true rfl⟩) (hh_preS X h [.int x0, .int (-1000 : Int32), .int (1000 : Int32)]) rfl rfl hl.1 rfl (lv_room (Nat.le_of_ble_eq_true rfl)) dX9_isPay_7 ⟨Nat.le_of_ble_eq_true rfl, Nat.le_of_ble_eq_true rfl⟩) (fun r1 σ2 H locs hq h => ?_)
  obtain ⟨h3, hq⟩ := hq
  exact hh_zret X h hr hlocks h3 hq dX9_isPay_10
theorem nd_X9_pays : yX9_pays.cls = RX9 ∧ yX9_pays.cls ≠ "java/lang/invoke/MethodHandle" ∧ yX9_pays.cls ≠ "java/lang/invoke/VarHandle" ∧ (parseMethodDescriptor yX9_pays.desc).map (fun d => d.parameters.length) = some 3 := by decide +kernel
abbrev rm_X9_pays : Room := { frames := 2, cells := 0, slots := 0, locals := 42 }
def wp_X9_pays (x1 : Int32) (x2 : Int32) (x3 : Int32) (σ : hh_S) (Q : Int32 → hh_S → Prop) : Prop := (wp_X9_in x1 (0 : Int32) (20 : Int32) σ (fun (r1 : Int32) (σ2 : hh_S) => ((r1 = 0 → (Q (-2 : Int32) σ2)) ∧ (¬ r1 = 0 → (wp_X9_isPay x2 σ2 (fun (r4 : Int32) (σ5 : hh_S) => ((r4 = 0 → (Q (-2 : Int32) σ5)) ∧ (¬ r4 = 0 → (wp_X9_isPay x3 σ5 (fun (r7 : Int32) (σ8 : hh_S) => ((¬ r7 = 0 → (vp_in x1 21 ∧ ∀ σ11 : hh_S, σ11 = hh_sA σ8 15 x1 x2 → (vp_in x1 21 ∧ ∀ σ13 : hh_S, σ13 = hh_sA σ11 16 x1 x3 → (Q (1 : Int32) σ13)))) ∧ (r7 = 0 → (Q (-2 : Int32) σ8)))))))))))))
theorem in_X9_pays_X9 : ∀ w ∈ u_ws RX9 TX9 37, w ∈ wsX9_pays := fun w h => List.mem_cons_of_mem _ (List.mem_append_right _ h)
set_option maxHeartbeats 4000000 in
set_option maxRecDepth 100000 in
theorem ad_X9_pays {D : va_G} (l : Launch) {cy : Nat → ClassId} {ad : Nat → Nat} (J : hh_J hm_Y ad) (x1 : Int32) (x2 : Int32) (x3 : Int32) (σ : hh_S) (Q : Int32 → hh_S → Prop) (hq : wp_X9_pays x1 x2 x3 σ Q) : Met l yX9_pays wsX9_pays rm_X9_pays (va_Pc [.ref (ad 0), .int x1, .int x2, .int x3] (hh_B D hh_cl hm_Y cy ad σ)) (va_Qi Q (hh_B D hh_cl hm_Y cy ad) (hh_A hm_Y ad)) 0 0 (hh_A hm_Y ad) := by
  refine Met.ofW (cc := cX9_pays) (maxL := 4) (ret := (some .int)) (by decide) rfl ?_
  intro p e s m args below meth c s₁ B hml hv
  obtain ⟨hargs, hP0, hK0⟩ := hv
  have hr := B.returns
  have hlocks := B.notSynchronized
  have X : hh_X p m c cX9_pays 4 s args wsX9_pays RX9 D hh_cl hm_Y cy ad := ⟨⟨B.exec, B.bytes, hml, findClass_of_methodNamed B.named, atoms_spec (ws := wsX9_pays) B.pre⟩, hK0, J⟩
  have hx := X.1.1
  have hb1 := X.1.2.1
  have h : hh_H D hh_cl hm_Y cy ad s.heap σ s.heap [] := ⟨hP0, va_S.rf⟩
  subst hargs
  refine hh_entry (vs := [.ref (ad 0), .int x1, .int x2, .int x3]) (Nat.le_of_ble_eq_true rfl) (fun ls hl => ?_)
  have hl : lv_has ls 4 [(0, .ref (ad 0)), (1, .int x1), (2, .int x2), (3, .int x3)] := hl
  have hq : wp_X9_pays x1 x2 x3 σ Q := hq
  unfold wp_X9_pays at hq
  refine lv_iload_n hx hb1 dX9_pays_0 rfl (lv_at hl 1 rfl) ?_
  refine lv_iconst (v := (0 : Int32)) hx hb1 dX9_pays_1 (by decide) ?_
  refine lv_bipush (v := (20 : Int32)) hx hb1 dX9_pays_2 (by decide) ?_
  refine hh_kI h (va_runS (As := [.int x1, .int (0 : Int32), .int (20 : Int32)]) (rest := []) X.1 (ad_X9_in (D := D) l J x1 (0 : Int32) (20 : Int32) σ _ hq) (va_cwS 3 X.1.2.2.2.2 gX9_pays_X9_in rfl rfl rfl nd_X9_in ⟨Nat.le_of_ble_eq_true rfl, Nat.le_of_ble_eq_true rfl⟩) (hh_preS X h [.int x1, .int (0 : Int32), .int (20 : Int32)]) rfl rfl hl.1 rfl (lv_room (Nat.le_of_ble_eq_true rfl)) dX9_pays_4 ⟨Nat.le_of_ble_eq_true rfl, Nat.le_of_ble_eq_true rfl⟩) (fun r1 σ2 H locs hq h => ?_)
  refine lv_if_eq (tgt := 24) hx hb1 dX9_pays_7 (by decide) (fun c3 => ?_) (fun c3 => ?_)
  · have hq := hq.1 c3
    refine lv_bipush (v := (-2 : Int32)) hx hb1 dX9_pays_24 (by decide) ?_
    exact hh_iret X h hr hlocks hq dX9_pays_26
  · have hq := hq.2 c3
    refine lv_iload_n hx hb1 dX9_pays_10 rfl (lv_at hl 2 rfl) ?_
    refine hh_kI h (va_runS (As := [.int x2]) (rest := []) X.1 (ad_X9_isPay (D := D) l J x2 σ2 _ hq) (va_cwS 1 X.1.2.2.2.2 gX9_pays_X9_isPay rfl rfl rfl nd_X9_isPay ⟨Nat.le_of_ble_eq_true rfl, Nat.le_of_ble_eq_true rfl⟩) (hh_preS X h [.int x2]) rfl rfl hl.1 rfl (lv_room (Nat.le_of_ble_eq_true rfl)) dX9_pays_11 ⟨Nat.le_of_ble_eq_true rfl, Nat.le_of_ble_eq_true rfl⟩) (fun r4 σ5 H locs hq h => ?_)
    refine lv_if_eq (tgt := 24) hx hb1 dX9_pays_14 (by decide) (fun c6 => ?_) (fun c6 => ?_)
    · have hq := hq.1 c6
      refine lv_bipush (v := (-2 : Int32)) hx hb1 dX9_pays_24 (by decide) ?_
      exact hh_iret X h hr hlocks hq dX9_pays_26
    · have hq := hq.2 c6
      refine lv_iload_n hx hb1 dX9_pays_17 rfl (lv_at hl 3 rfl) ?_
      refine hh_kI h (va_runS (As := [.int x3]) (rest := []) X.1 (ad_X9_isPay (D := D) l J x3 σ5 _ hq) (va_cwS 1 X.1.2.2.2.2 gX9_pays_X9_isPay rfl rfl rfl nd_X9_isPay ⟨Nat.le_of_ble_eq_true rfl, Nat.le_of_ble_eq_true rfl⟩) (hh_preS X h [.int x3]) rfl rfl hl.1 rfl (lv_room (Nat.le_of_ble_eq_true rfl)) dX9_pays_18 ⟨Nat.le_of_ble_eq_true rfl, Nat.le_of_ble_eq_true rfl⟩) (fun r7 σ8 H locs hq h => ?_)
      refine lv_if_ne (tgt := 27) hx hb1 dX9_pays_21 (by decide) (fun c9 => ?_) (fun c9 => ?_)
      · have hq := hq.1 c9
        refine lv_aload_n hx hb1 dX9_pays_27 rfl (lv_at hl 0 rfl) ?_
        refine hh_getr X h fm_0_18 in_X9_pays_X9 km_0 (by decide) (List.mem_of_getElem? (i := 1) rfl) rfl dX9_pays_28 ?_
        refine lv_iload_n hx hb1 dX9_pays_31 rfl (lv_at hl 1 rfl) ?_
        refine lv_iload_n hx hb1 dX9_pays_32 rfl (lv_at hl 2 rfl) ?_
        obtain ⟨h10, hq⟩ := hq
        refine hh_ist X h am_15 h10 dX9_pays_33 (fun σ11 H locs eσ11 h => ?_)
        have hq := hq σ11 eσ11
        refine lv_aload_n hx hb1 dX9_pays_34 rfl (lv_at hl 0 rfl) ?_
        refine hh_getr X h fm_0_19 in_X9_pays_X9 km_0 (by decide) (List.mem_of_getElem? (i := 2) rfl) rfl dX9_pays_35 ?_
        refine lv_iload_n hx hb1 dX9_pays_38 rfl (lv_at hl 1 rfl) ?_
        refine lv_iload_n hx hb1 dX9_pays_39 rfl (lv_at hl 3 rfl) ?_
        obtain ⟨h12, hq⟩ := hq
        refine hh_ist X h am_16 h12 dX9_pays_40 (fun σ13 H locs eσ13 h => ?_)
        have hq := hq σ13 eσ13
        refine lv_iconst (v := (1 : Int32)) hx hb1 dX9_pays_41 (by decide) ?_
        exact hh_iret X h hr hlocks hq dX9_pays_42
      · have hq := hq.2 c9
        refine lv_bipush (v := (-2 : Int32)) hx hb1 dX9_pays_24 (by decide) ?_
        exact hh_iret X h hr hlocks hq dX9_pays_26
theorem nd_X9_brings : yX9_brings.cls = RX9 ∧ yX9_brings.cls ≠ "java/lang/invoke/MethodHandle" ∧ yX9_brings.cls ≠ "java/lang/invoke/VarHandle" ∧ (parseMethodDescriptor yX9_brings.desc).map (fun d => d.parameters.length) = some 2 := by decide +kernel
abbrev rm_X9_brings : Room := { frames := 0, cells := 0, slots := 0, locals := 0 }
def wp_X9_brings (x1 : Int32) (x2 : Int32) (σ : hh_S) (Q : Int32 → hh_S → Prop) : Prop := (vp_in x2 21 ∧ (vp_in x2 21 ∧ (Q ((x1 * (hh_rA σ 15 x2)) + (((20 : Int32) - x1) * (hh_rA σ 16 x2))) σ)))
theorem in_X9_brings_X9 : ∀ w ∈ u_ws RX9 TX9 37, w ∈ wsX9_brings := fun w h => List.mem_cons_of_mem _ (List.mem_append_right _ h)
set_option maxHeartbeats 4000000 in
set_option maxRecDepth 100000 in
theorem ad_X9_brings {D : va_G} (l : Launch) {cy : Nat → ClassId} {ad : Nat → Nat} (J : hh_J hm_Y ad) (x1 : Int32) (x2 : Int32) (σ : hh_S) (Q : Int32 → hh_S → Prop) (hq : wp_X9_brings x1 x2 σ Q) : Met l yX9_brings wsX9_brings rm_X9_brings (va_Pc [.ref (ad 0), .int x1, .int x2] (hh_B D hh_cl hm_Y cy ad σ)) (va_Qi Q (hh_B D hh_cl hm_Y cy ad) (hh_A hm_Y ad)) 0 0 (hh_A hm_Y ad) := by
  refine Met.ofW (cc := cX9_brings) (maxL := 3) (ret := (some .int)) (by decide) rfl ?_
  intro p e s m args below meth c s₁ B hml hv
  obtain ⟨hargs, hP0, hK0⟩ := hv
  have hr := B.returns
  have hlocks := B.notSynchronized
  have X : hh_X p m c cX9_brings 3 s args wsX9_brings RX9 D hh_cl hm_Y cy ad := ⟨⟨B.exec, B.bytes, hml, findClass_of_methodNamed B.named, atoms_spec (ws := wsX9_brings) B.pre⟩, hK0, J⟩
  have hx := X.1.1
  have hb1 := X.1.2.1
  have h : hh_H D hh_cl hm_Y cy ad s.heap σ s.heap [] := ⟨hP0, va_S.rf⟩
  subst hargs
  refine hh_entry (vs := [.ref (ad 0), .int x1, .int x2]) (Nat.le_of_ble_eq_true rfl) (fun ls hl => ?_)
  have hl : lv_has ls 3 [(0, .ref (ad 0)), (1, .int x1), (2, .int x2)] := hl
  have hq : wp_X9_brings x1 x2 σ Q := hq
  unfold wp_X9_brings at hq
  refine lv_iload_n hx hb1 dX9_brings_0 rfl (lv_at hl 1 rfl) ?_
  refine lv_aload_n hx hb1 dX9_brings_1 rfl (lv_at hl 0 rfl) ?_
  refine hh_getr X h fm_0_18 in_X9_brings_X9 km_0 (by decide) (List.mem_of_getElem? (i := 1) rfl) rfl dX9_brings_2 ?_
  refine lv_iload_n hx hb1 dX9_brings_5 rfl (lv_at hl 2 rfl) ?_
  obtain ⟨h1, hq⟩ := hq
  refine hh_ild X h am_15 h1 dX9_brings_6 ?_
  refine lv_imul hx hb1 dX9_brings_7 ?_
  refine lv_bipush (v := (20 : Int32)) hx hb1 dX9_brings_8 (by decide) ?_
  refine lv_iload_n hx hb1 dX9_brings_10 rfl (lv_at hl 1 rfl) ?_
  refine lv_isub hx hb1 dX9_brings_11 ?_
  refine lv_aload_n hx hb1 dX9_brings_12 rfl (lv_at hl 0 rfl) ?_
  refine hh_getr X h fm_0_19 in_X9_brings_X9 km_0 (by decide) (List.mem_of_getElem? (i := 2) rfl) rfl dX9_brings_13 ?_
  refine lv_iload_n hx hb1 dX9_brings_16 rfl (lv_at hl 2 rfl) ?_
  obtain ⟨h2, hq⟩ := hq
  refine hh_ild X h am_16 h2 dX9_brings_17 ?_
  refine lv_imul hx hb1 dX9_brings_18 ?_
  refine lv_iadd hx hb1 dX9_brings_19 ?_
  exact hh_iret X h hr hlocks hq dX9_brings_20
theorem nd_X9_belief : yX9_belief.cls = RX9 ∧ yX9_belief.cls ≠ "java/lang/invoke/MethodHandle" ∧ yX9_belief.cls ≠ "java/lang/invoke/VarHandle" ∧ (parseMethodDescriptor yX9_belief.desc).map (fun d => d.parameters.length) = some 1 := by decide +kernel
abbrev rm_X9_belief : Room := { frames := 1, cells := 0, slots := 0, locals := 22 }
def wq_X9_belief_25 (K14 : Int32 → hh_S → Prop) (x1 : Int32) (x2 : Int32) (Q : Int32 → hh_S → Prop) (K25 : Int32 → Int32 → hh_S → Prop) (x3 : Int32) (x4 : Int32) (σ : hh_S) : Prop := (((20 : Int32) < x4 → (wp_X9_brings x2 x3 σ (fun (r2 : Int32) (σ3 : hh_S) => (wp_X9_brings x2 x2 σ3 (fun (r4 : Int32) (σ5 : hh_S) => ((r2 ≤ r4 → (K14 (x2 + (1 : Int32)) σ5)) ∧ (¬ r2 ≤ r4 → ((¬ x1 = 0 → ((¬ x1 = (1 : Int32) → (wp_X9_brings x2 x3 σ5 (fun (r9 : Int32) (σ10 : hh_S) => (wp_X9_brings x2 x2 σ10 (fun (r11 : Int32) (σ12 : hh_S) => (Q (r9 - r11) σ12)))))) ∧ (x1 = (1 : Int32) → (Q x3 σ5)))) ∧ (x1 = 0 → (Q x2 σ5)))))))))) ∧ (¬ (20 : Int32) < x4 → (wp_X9_brings x2 x4 σ (fun (r13 : Int32) (σ14 : hh_S) => (wp_X9_brings x2 x3 σ14 (fun (r15 : Int32) (σ16 : hh_S) => ((r13 ≤ r15 → (K25 x3 (x4 + (1 : Int32)) σ16)) ∧ (¬ r13 ≤ r15 → (K25 x4 (x4 + (1 : Int32)) σ16)))))))))
def wq_X9_belief_14 (x1 : Int32) (Q : Int32 → hh_S → Prop) (K14 : Int32 → hh_S → Prop) (x2 : Int32) (σ : hh_S) : Prop := (((20 : Int32) < x2 → (Q (-6 : Int32) σ)) ∧ (¬ (20 : Int32) < x2 → (∃ n : Nat, hh_lp2 (wq_X9_belief_25 K14 x1 x2 Q) n (0 : Int32) (1 : Int32) σ)))
def wp_X9_belief (x1 : Int32) (σ : hh_S) (Q : Int32 → hh_S → Prop) : Prop := (wp_X9_in x1 (0 : Int32) (2 : Int32) σ (fun (r20 : Int32) (σ21 : hh_S) => ((¬ r20 = 0 → (∃ n : Nat, hh_lp1 (wq_X9_belief_14 x1 Q) n (0 : Int32) σ21)) ∧ (r20 = 0 → (Q (-2 : Int32) σ21)))))
theorem in_X9_belief_X9 : ∀ w ∈ u_ws RX9 TX9 37, w ∈ wsX9_belief := fun w h => List.mem_cons_of_mem _ (List.mem_append_right _ h)
set_option maxHeartbeats 4000000 in
set_option maxRecDepth 100000 in
theorem ad_X9_belief {D : va_G} (l : Launch) {cy : Nat → ClassId} {ad : Nat → Nat} (J : hh_J hm_Y ad) (x1 : Int32) (σ : hh_S) (Q : Int32 → hh_S → Prop) (hq : wp_X9_belief x1 σ Q) : Met l yX9_belief wsX9_belief rm_X9_belief (va_Pc [.ref (ad 0), .int x1] (hh_B D hh_cl hm_Y cy ad σ)) (va_Qi Q (hh_B D hh_cl hm_Y cy ad) (hh_A hm_Y ad)) 0 0 (hh_A hm_Y ad) := by
  refine Met.ofW (cc := cX9_belief) (maxL := 5) (ret := (some .int)) (by decide) rfl ?_
  intro p e s m args below meth c s₁ B hml hv
  obtain ⟨hargs, hP0, hK0⟩ := hv
  have hr := B.returns
  have hlocks := B.notSynchronized
  have X : hh_X p m c cX9_belief 5 s args wsX9_belief RX9 D hh_cl hm_Y cy ad := ⟨⟨B.exec, B.bytes, hml, findClass_of_methodNamed B.named, atoms_spec (ws := wsX9_belief) B.pre⟩, hK0, J⟩
  have hx := X.1.1
  have hb1 := X.1.2.1
  have h : hh_H D hh_cl hm_Y cy ad s.heap σ s.heap [] := ⟨hP0, va_S.rf⟩
  have lt_25 : ∀ (x1 : Int32) (x2 : Int32) (K14 : Int32 → hh_S → Prop) (hK14 : ∀ (x2 : Int32) (σ : hh_S) (H : Heap) (locs : List Loc) (ls : Array Slot), K14 x2 σ → hh_H D hh_cl hm_Y cy ad s.heap σ H locs → lv_has ls 5 [(0, .ref (ad 0)), (1, .int x1), (2, .int x2)] → W p l e (headSpec wsX9_belief rm_X9_belief).room s m args below meth c H locs 0 0 (MQ below (va_Qi Q (hh_B D hh_cl hm_Y cy ad) (hh_A hm_Y ad)) args s 0 0 (hh_A hm_Y ad)) (F0 m 14 ls [])) (n : Nat) (x3 : Int32) (x4 : Int32) (σ : hh_S) (H : Heap) (locs : List Loc) (ls : Array Slot), hh_lp2 (wq_X9_belief_25 K14 x1 x2 Q) n x3 x4 σ → hh_H D hh_cl hm_Y cy ad s.heap σ H locs → lv_has ls 5 [(0, .ref (ad 0)), (1, .int x1), (2, .int x2), (3, .int x3), (4, .int x4)] → W p l e (headSpec wsX9_belief rm_X9_belief).room s m args below meth c H locs 0 0 (MQ below (va_Qi Q (hh_B D hh_cl hm_Y cy ad) (hh_A hm_Y ad)) args s 0 0 (hh_A hm_Y ad)) (F0 m 25 ls []) := by
    intro x1 x2 K14 hK14 n
    induction n with
    | zero => intro x3 x4 σ H locs ls hq h hl; exact hq.elim
    | succ n ih =>
      intro x3 x4 σ H locs ls hq h hl
      have hq : wq_X9_belief_25 K14 x1 x2 Q (hh_lp2 (wq_X9_belief_25 K14 x1 x2 Q) n) x3 x4 σ := hq
      unfold wq_X9_belief_25 at hq
      refine lv_iload hx hb1 dX9_belief_25 (lv_at hl 4 rfl) ?_
      refine lv_bipush (v := (20 : Int32)) hx hb1 dX9_belief_27 (by decide) ?_
      refine lv_icmp_gt (tgt := 61) hx hb1 dX9_belief_29 (by decide) (fun c1 => ?_) (fun c1 => ?_)
      · have hq := hq.1 c1
        refine lv_aload_n hx hb1 dX9_belief_61 rfl (lv_at hl 0 rfl) ?_
        refine lv_iload_n hx hb1 dX9_belief_62 rfl (lv_at hl 2 rfl) ?_
        refine lv_iload_n hx hb1 dX9_belief_63 rfl (lv_at hl 3 rfl) ?_
        refine hh_kI h (va_runV (As := [.int x2, .int x3]) (rest := []) X.1 (ad_X9_brings (D := D) l J x2 x3 σ _ hq) (cwV 2 X.1.2.2.2.2 gX9_belief_X9_brings rfl rfl rfl nd_X9_brings ⟨Nat.le_of_ble_eq_true rfl, Nat.le_of_ble_eq_true rfl⟩) (hh_preV X h fm_0_0 km_0 [.int x2, .int x3]) rfl rfl hl.1 rfl (lv_room (Nat.le_of_ble_eq_true rfl)) dX9_belief_64 ⟨Nat.le_of_ble_eq_true rfl, Nat.le_of_ble_eq_true rfl⟩) (fun r2 σ3 H locs hq h => ?_)
        refine lv_aload_n hx hb1 dX9_belief_67 rfl (lv_at hl 0 rfl) ?_
        refine lv_iload_n hx hb1 dX9_belief_68 rfl (lv_at hl 2 rfl) ?_
        refine lv_iload_n hx hb1 dX9_belief_69 rfl (lv_at hl 2 rfl) ?_
        refine hh_kI h (va_runV (As := [.int x2, .int x2]) (rest := [.int r2]) X.1 (ad_X9_brings (D := D) l J x2 x2 σ3 _ hq) (cwV 2 X.1.2.2.2.2 gX9_belief_X9_brings rfl rfl rfl nd_X9_brings ⟨Nat.le_of_ble_eq_true rfl, Nat.le_of_ble_eq_true rfl⟩) (hh_preV X h fm_0_0 km_0 [.int x2, .int x2]) rfl rfl hl.1 rfl (lv_room (Nat.le_of_ble_eq_true rfl)) dX9_belief_70 ⟨Nat.le_of_ble_eq_true rfl, Nat.le_of_ble_eq_true rfl⟩) (fun r4 σ5 H locs hq h => ?_)
        refine lv_icmp_le (tgt := 107) hx hb1 dX9_belief_73 (by decide) (fun c6 => ?_) (fun c6 => ?_)
        · have hq := hq.1 c6
          refine lv_iinc (v := (x2 + (1 : Int32))) (lv' := [(2, .int (x2 + (1 : Int32))), (0, .ref (ad 0)), (1, .int x1), (3, .int x3), (4, .int x4)]) hx hb1 dX9_belief_107 hl (k := 2) rfl rfl (by decide) rfl (fun ls hl => ?_)
          refine lv_goto (tgt := 14) hx hb1 dX9_belief_110 (by decide) ?_
          exact hK14 (x2 + (1 : Int32)) σ5 _ _ ls hq h (lv_sub hl [1, 2, 0] rfl)
        · have hq := hq.2 c6
          refine lv_iload_n hx hb1 dX9_belief_76 rfl (lv_at hl 1 rfl) ?_
          refine lv_if_ne (tgt := 84) hx hb1 dX9_belief_77 (by decide) (fun c7 => ?_) (fun c7 => ?_)
          · have hq := hq.1 c7
            refine lv_iload_n hx hb1 dX9_belief_84 rfl (lv_at hl 1 rfl) ?_
            refine lv_iconst (v := (1 : Int32)) hx hb1 dX9_belief_85 (by decide) ?_
            refine lv_icmp_ne (tgt := 93) hx hb1 dX9_belief_86 (by decide) (fun c8 => ?_) (fun c8 => ?_)
            · have hq := hq.1 c8
              refine lv_aload_n hx hb1 dX9_belief_93 rfl (lv_at hl 0 rfl) ?_
              refine lv_iload_n hx hb1 dX9_belief_94 rfl (lv_at hl 2 rfl) ?_
              refine lv_iload_n hx hb1 dX9_belief_95 rfl (lv_at hl 3 rfl) ?_
              refine hh_kI h (va_runV (As := [.int x2, .int x3]) (rest := []) X.1 (ad_X9_brings (D := D) l J x2 x3 σ5 _ hq) (cwV 2 X.1.2.2.2.2 gX9_belief_X9_brings rfl rfl rfl nd_X9_brings ⟨Nat.le_of_ble_eq_true rfl, Nat.le_of_ble_eq_true rfl⟩) (hh_preV X h fm_0_0 km_0 [.int x2, .int x3]) rfl rfl hl.1 rfl (lv_room (Nat.le_of_ble_eq_true rfl)) dX9_belief_96 ⟨Nat.le_of_ble_eq_true rfl, Nat.le_of_ble_eq_true rfl⟩) (fun r9 σ10 H locs hq h => ?_)
              refine lv_aload_n hx hb1 dX9_belief_99 rfl (lv_at hl 0 rfl) ?_
              refine lv_iload_n hx hb1 dX9_belief_100 rfl (lv_at hl 2 rfl) ?_
              refine lv_iload_n hx hb1 dX9_belief_101 rfl (lv_at hl 2 rfl) ?_
              refine hh_kI h (va_runV (As := [.int x2, .int x2]) (rest := [.int r9]) X.1 (ad_X9_brings (D := D) l J x2 x2 σ10 _ hq) (cwV 2 X.1.2.2.2.2 gX9_belief_X9_brings rfl rfl rfl nd_X9_brings ⟨Nat.le_of_ble_eq_true rfl, Nat.le_of_ble_eq_true rfl⟩) (hh_preV X h fm_0_0 km_0 [.int x2, .int x2]) rfl rfl hl.1 rfl (lv_room (Nat.le_of_ble_eq_true rfl)) dX9_belief_102 ⟨Nat.le_of_ble_eq_true rfl, Nat.le_of_ble_eq_true rfl⟩) (fun r11 σ12 H locs hq h => ?_)
              refine lv_isub hx hb1 dX9_belief_105 ?_
              exact hh_iret X h hr hlocks hq dX9_belief_106
            · have hq := hq.2 c8
              refine lv_iload_n hx hb1 dX9_belief_89 rfl (lv_at hl 3 rfl) ?_
              refine lv_goto (tgt := 106) hx hb1 dX9_belief_90 (by decide) ?_
              exact hh_iret X h hr hlocks hq dX9_belief_106
          · have hq := hq.2 c7
            refine lv_iload_n hx hb1 dX9_belief_80 rfl (lv_at hl 2 rfl) ?_
            refine lv_goto (tgt := 106) hx hb1 dX9_belief_81 (by decide) ?_
            exact hh_iret X h hr hlocks hq dX9_belief_106
      · have hq := hq.2 c1
        refine lv_aload_n hx hb1 dX9_belief_32 rfl (lv_at hl 0 rfl) ?_
        refine lv_iload_n hx hb1 dX9_belief_33 rfl (lv_at hl 2 rfl) ?_
        refine lv_iload hx hb1 dX9_belief_34 (lv_at hl 4 rfl) ?_
        refine hh_kI h (va_runV (As := [.int x2, .int x4]) (rest := []) X.1 (ad_X9_brings (D := D) l J x2 x4 σ _ hq) (cwV 2 X.1.2.2.2.2 gX9_belief_X9_brings rfl rfl rfl nd_X9_brings ⟨Nat.le_of_ble_eq_true rfl, Nat.le_of_ble_eq_true rfl⟩) (hh_preV X h fm_0_0 km_0 [.int x2, .int x4]) rfl rfl hl.1 rfl (lv_room (Nat.le_of_ble_eq_true rfl)) dX9_belief_36 ⟨Nat.le_of_ble_eq_true rfl, Nat.le_of_ble_eq_true rfl⟩) (fun r13 σ14 H locs hq h => ?_)
        refine lv_aload_n hx hb1 dX9_belief_39 rfl (lv_at hl 0 rfl) ?_
        refine lv_iload_n hx hb1 dX9_belief_40 rfl (lv_at hl 2 rfl) ?_
        refine lv_iload_n hx hb1 dX9_belief_41 rfl (lv_at hl 3 rfl) ?_
        refine hh_kI h (va_runV (As := [.int x2, .int x3]) (rest := [.int r13]) X.1 (ad_X9_brings (D := D) l J x2 x3 σ14 _ hq) (cwV 2 X.1.2.2.2.2 gX9_belief_X9_brings rfl rfl rfl nd_X9_brings ⟨Nat.le_of_ble_eq_true rfl, Nat.le_of_ble_eq_true rfl⟩) (hh_preV X h fm_0_0 km_0 [.int x2, .int x3]) rfl rfl hl.1 rfl (lv_room (Nat.le_of_ble_eq_true rfl)) dX9_belief_42 ⟨Nat.le_of_ble_eq_true rfl, Nat.le_of_ble_eq_true rfl⟩) (fun r15 σ16 H locs hq h => ?_)
        refine lv_icmp_le (tgt := 53) hx hb1 dX9_belief_45 (by decide) (fun c17 => ?_) (fun c17 => ?_)
        · have hq := hq.1 c17
          refine lv_iload_n hx hb1 dX9_belief_53 rfl (lv_at hl 3 rfl) ?_
          refine lv_istore_n (lv' := [(3, .int x3), (0, .ref (ad 0)), (1, .int x1), (2, .int x2), (4, .int x4)]) hx hb1 dX9_belief_54 rfl hl (by decide) rfl (fun ls hl => ?_)
          refine lv_iinc (v := (x4 + (1 : Int32))) (lv' := [(4, .int (x4 + (1 : Int32))), (3, .int x3), (0, .ref (ad 0)), (1, .int x1), (2, .int x2)]) hx hb1 dX9_belief_55 hl (k := 4) rfl rfl (by decide) rfl (fun ls hl => ?_)
          refine lv_goto (tgt := 25) hx hb1 dX9_belief_58 (by decide) ?_
          exact ih x3 (x4 + (1 : Int32)) σ16 _ _ ls hq h (lv_sub hl [2, 3, 4, 1, 0] rfl)
        · have hq := hq.2 c17
          refine lv_iload hx hb1 dX9_belief_48 (lv_at hl 4 rfl) ?_
          refine lv_goto (tgt := 54) hx hb1 dX9_belief_50 (by decide) ?_
          refine lv_istore_n (lv' := [(3, .int x4), (0, .ref (ad 0)), (1, .int x1), (2, .int x2), (4, .int x4)]) hx hb1 dX9_belief_54 rfl hl (by decide) rfl (fun ls hl => ?_)
          refine lv_iinc (v := (x4 + (1 : Int32))) (lv' := [(4, .int (x4 + (1 : Int32))), (3, .int x4), (0, .ref (ad 0)), (1, .int x1), (2, .int x2)]) hx hb1 dX9_belief_55 hl (k := 4) rfl rfl (by decide) rfl (fun ls hl => ?_)
          refine lv_goto (tgt := 25) hx hb1 dX9_belief_58 (by decide) ?_
          exact ih x4 (x4 + (1 : Int32)) σ16 _ _ ls hq h (lv_sub hl [2, 3, 4, 1, 0] rfl)
  have lt_14 : ∀ (x1 : Int32) (n : Nat) (x2 : Int32) (σ : hh_S) (H : Heap) (locs : List Loc) (ls : Array Slot), hh_lp1 (wq_X9_belief_14 x1 Q) n x2 σ → hh_H D hh_cl hm_Y cy ad s.heap σ H locs → lv_has ls 5 [(0, .ref (ad 0)), (1, .int x1), (2, .int x2)] → W p l e (headSpec wsX9_belief rm_X9_belief).room s m args below meth c H locs 0 0 (MQ below (va_Qi Q (hh_B D hh_cl hm_Y cy ad) (hh_A hm_Y ad)) args s 0 0 (hh_A hm_Y ad)) (F0 m 14 ls []) := by
    intro x1 n
    induction n with
    | zero => intro x2 σ H locs ls hq h hl; exact hq.elim
    | succ n ih =>
      intro x2 σ H locs ls hq h hl
      have hq : wq_X9_belief_14 x1 Q (hh_lp1 (wq_X9_belief_14 x1 Q) n) x2 σ := hq
      unfold wq_X9_belief_14 at hq
      refine lv_iload_n hx hb1 dX9_belief_14 rfl (lv_at hl 2 rfl) ?_
      refine lv_bipush (v := (20 : Int32)) hx hb1 dX9_belief_15 (by decide) ?_
      refine lv_icmp_gt (tgt := 113) hx hb1 dX9_belief_17 (by decide) (fun c18 => ?_) (fun c18 => ?_)
      · have hq := hq.1 c18
        refine lv_bipush (v := (-6 : Int32)) hx hb1 dX9_belief_113 (by decide) ?_
        exact hh_iret X h hr hlocks hq dX9_belief_115
      · have hq := hq.2 c18
        refine lv_iconst (v := (0 : Int32)) hx hb1 dX9_belief_20 (by decide) ?_
        refine lv_istore_n (lv' := [(3, .int (0 : Int32)), (0, .ref (ad 0)), (1, .int x1), (2, .int x2)]) hx hb1 dX9_belief_21 rfl hl (by decide) rfl (fun ls hl => ?_)
        refine lv_iconst (v := (1 : Int32)) hx hb1 dX9_belief_22 (by decide) ?_
        refine lv_istore (lv' := [(4, .int (1 : Int32)), (3, .int (0 : Int32)), (0, .ref (ad 0)), (1, .int x1), (2, .int x2)]) hx hb1 dX9_belief_23 hl (by decide) rfl (fun ls hl => ?_)
        obtain ⟨n19, hq⟩ := hq
        exact lt_25 x1 x2 (hh_lp1 (wq_X9_belief_14 x1 Q) n) ih n19 (0 : Int32) (1 : Int32) σ _ _ ls hq h (lv_sub hl [2, 3, 4, 1, 0] rfl)
  subst hargs
  refine hh_entry (vs := [.ref (ad 0), .int x1]) (Nat.le_of_ble_eq_true rfl) (fun ls hl => ?_)
  have hl : lv_has ls 5 [(0, .ref (ad 0)), (1, .int x1)] := hl
  have hq : wp_X9_belief x1 σ Q := hq
  unfold wp_X9_belief at hq
  refine lv_iload_n hx hb1 dX9_belief_0 rfl (lv_at hl 1 rfl) ?_
  refine lv_iconst (v := (0 : Int32)) hx hb1 dX9_belief_1 (by decide) ?_
  refine lv_iconst (v := (2 : Int32)) hx hb1 dX9_belief_2 (by decide) ?_
  refine hh_kI h (va_runS (As := [.int x1, .int (0 : Int32), .int (2 : Int32)]) (rest := []) X.1 (ad_X9_in (D := D) l J x1 (0 : Int32) (2 : Int32) σ _ hq) (va_cwS 3 X.1.2.2.2.2 gX9_belief_X9_in rfl rfl rfl nd_X9_in ⟨Nat.le_of_ble_eq_true rfl, Nat.le_of_ble_eq_true rfl⟩) (hh_preS X h [.int x1, .int (0 : Int32), .int (2 : Int32)]) rfl rfl hl.1 rfl (lv_room (Nat.le_of_ble_eq_true rfl)) dX9_belief_3 ⟨Nat.le_of_ble_eq_true rfl, Nat.le_of_ble_eq_true rfl⟩) (fun r20 σ21 H locs hq h => ?_)
  refine lv_if_ne (tgt := 12) hx hb1 dX9_belief_6 (by decide) (fun c22 => ?_) (fun c22 => ?_)
  · have hq := hq.1 c22
    refine lv_iconst (v := (0 : Int32)) hx hb1 dX9_belief_12 (by decide) ?_
    refine lv_istore_n (lv' := [(2, .int (0 : Int32)), (0, .ref (ad 0)), (1, .int x1)]) hx hb1 dX9_belief_13 rfl hl (by decide) rfl (fun ls hl => ?_)
    obtain ⟨n23, hq⟩ := hq
    exact lt_14 x1 n23 (0 : Int32) σ21 _ _ ls hq h (lv_sub hl [1, 2, 0] rfl)
  · have hq := hq.2 c22
    refine lv_bipush (v := (-2 : Int32)) hx hb1 dX9_belief_9 (by decide) ?_
    exact hh_iret X h hr hlocks hq dX9_belief_11
theorem nd_X9_plan : yX9_plan.cls = RX9 ∧ yX9_plan.cls ≠ "java/lang/invoke/MethodHandle" ∧ yX9_plan.cls ≠ "java/lang/invoke/VarHandle" ∧ (parseMethodDescriptor yX9_plan.desc).map (fun d => d.parameters.length) = some 2 := by decide +kernel
abbrev rm_X9_plan : Room := { frames := 1, cells := 0, slots := 0, locals := 24 }
def wq_X9_plan_66 (K29 : Int64 → Int32 → hh_S → Prop) (K47 : Int64 → Int32 → hh_S → Prop) (x1 : Int32) (x3 : Int64) (x5 : Int32) (x6 : Int64) (x8 : Int32) (Q : Int32 → hh_S → Prop) (K66 : Int64 → Int32 → hh_S → Prop) (x9 : Int64) (x11 : Int32) (σ : hh_S) : Prop := ((x5 ≤ x11 → (K47 (x6 + x9) (x8 + (1 : Int32)) σ)) ∧ (¬ x5 ≤ x11 → ((x8 ≤ x11 → (∀ v3 : Int64, v3 = (x9 * (((100 : Int32) - x1).toInt64)) → (K66 v3 (x11 + (1 : Int32)) σ))) ∧ (¬ x8 ≤ x11 → (∀ v4 : Int64, v4 = (x9 * (x1.toInt64)) → (K66 v4 (x11 + (1 : Int32)) σ))))))
def wq_X9_plan_47 (K29 : Int64 → Int32 → hh_S → Prop) (x1 : Int32) (x3 : Int64) (x5 : Int32) (Q : Int32 → hh_S → Prop) (K47 : Int64 → Int32 → hh_S → Prop) (x6 : Int64) (x8 : Int32) (σ : hh_S) : Prop := ((x5 < x8 → (((lg_cmp x6 x3) < 0 → (∀ v7 : Int64, v7 = (x3 * (10000 : Int64)) → (K29 v7 (x5 + (2 : Int32)) σ))) ∧ (¬ (lg_cmp x6 x3) < 0 → (Q x5 σ)))) ∧ (¬ x5 < x8 → (wp_X9_choose x5 x8 σ (fun (r8 : Int64) (σ9 : hh_S) => (∃ n : Nat, hh_lp2 (wq_X9_plan_66 K29 K47 x1 x3 x5 x6 x8 Q) n r8 (0 : Int32) σ9)))))
def wq_X9_plan_29 (x1 : Int32) (Q : Int32 → hh_S → Prop) (K29 : Int64 → Int32 → hh_S → Prop) (x3 : Int64) (x5 : Int32) (σ : hh_S) : Prop := (((9 : Int32) < x5 → (Q (-6 : Int32) σ)) ∧ (¬ (9 : Int32) < x5 → (∀ v12 : Int32, v12 = ((x5 / (2 : Int32)) + (1 : Int32)) → (∃ n : Nat, hh_lp2 (wq_X9_plan_47 K29 x1 x3 x5 Q) n (0 : Int64) v12 σ))))
def wp_X9_plan (x1 : Int32) (x2 : Int32) (σ : hh_S) (Q : Int32 → hh_S → Prop) : Prop := (wp_X9_in x1 (0 : Int32) (100 : Int32) σ (fun (r14 : Int32) (σ15 : hh_S) => ((r14 = 0 → (Q (-2 : Int32) σ15)) ∧ (¬ r14 = 0 → (wp_X9_in x2 (0 : Int32) (100 : Int32) σ15 (fun (r17 : Int32) (σ18 : hh_S) => ((¬ r17 = 0 → (∀ v20 : Int64, v20 = (x2.toInt64) → (∃ n : Nat, hh_lp2 (wq_X9_plan_29 x1 Q) n v20 (1 : Int32) σ18))) ∧ (r17 = 0 → (Q (-2 : Int32) σ18)))))))))
set_option maxHeartbeats 4000000 in
set_option maxRecDepth 100000 in
theorem ad_X9_plan {D : va_G} (l : Launch) {cy : Nat → ClassId} {ad : Nat → Nat} (J : hh_J hm_Y ad) (x1 : Int32) (x2 : Int32) (σ : hh_S) (Q : Int32 → hh_S → Prop) (hq : wp_X9_plan x1 x2 σ Q) : Met l yX9_plan wsX9_plan rm_X9_plan (va_Pc [.ref (ad 0), .int x1, .int x2] (hh_B D hh_cl hm_Y cy ad σ)) (va_Qi Q (hh_B D hh_cl hm_Y cy ad) (hh_A hm_Y ad)) 0 0 (hh_A hm_Y ad) := by
  refine Met.ofW (cc := cX9_plan) (maxL := 12) (ret := (some .int)) (by decide) rfl ?_
  intro p e s m args below meth c s₁ B hml hv
  obtain ⟨hargs, hP0, hK0⟩ := hv
  have hr := B.returns
  have hlocks := B.notSynchronized
  have X : hh_X p m c cX9_plan 12 s args wsX9_plan RX9 D hh_cl hm_Y cy ad := ⟨⟨B.exec, B.bytes, hml, findClass_of_methodNamed B.named, atoms_spec (ws := wsX9_plan) B.pre⟩, hK0, J⟩
  have hx := X.1.1
  have hb1 := X.1.2.1
  have h : hh_H D hh_cl hm_Y cy ad s.heap σ s.heap [] := ⟨hP0, va_S.rf⟩
  have lt_66 : ∀ (x1 : Int32) (x3 : Int64) (x5 : Int32) (x6 : Int64) (x8 : Int32) (K29 : Int64 → Int32 → hh_S → Prop) (hK29 : ∀ (x3 : Int64) (x5 : Int32) (σ : hh_S) (H : Heap) (locs : List Loc) (ls : Array Slot), K29 x3 x5 σ → hh_H D hh_cl hm_Y cy ad s.heap σ H locs → lv_has ls 12 [(1, .int x1), (3, .long x3), (5, .int x5)] → W p l e (headSpec wsX9_plan rm_X9_plan).room s m args below meth c H locs 0 0 (MQ below (va_Qi Q (hh_B D hh_cl hm_Y cy ad) (hh_A hm_Y ad)) args s 0 0 (hh_A hm_Y ad)) (F0 m 29 ls [])) (K47 : Int64 → Int32 → hh_S → Prop) (hK47 : ∀ (x6 : Int64) (x8 : Int32) (σ : hh_S) (H : Heap) (locs : List Loc) (ls : Array Slot), K47 x6 x8 σ → hh_H D hh_cl hm_Y cy ad s.heap σ H locs → lv_has ls 12 [(1, .int x1), (3, .long x3), (5, .int x5), (6, .long x6), (8, .int x8)] → W p l e (headSpec wsX9_plan rm_X9_plan).room s m args below meth c H locs 0 0 (MQ below (va_Qi Q (hh_B D hh_cl hm_Y cy ad) (hh_A hm_Y ad)) args s 0 0 (hh_A hm_Y ad)) (F0 m 47 ls [])) (n : Nat) (x9 : Int64) (x11 : Int32) (σ : hh_S) (H : Heap) (locs : List Loc) (ls : Array Slot), hh_lp2 (wq_X9_plan_66 K29 K47 x1 x3 x5 x6 x8 Q) n x9 x11 σ → hh_H D hh_cl hm_Y cy ad s.heap σ H locs → lv_has ls 12 [(1, .int x1), (3, .long x3), (5, .int x5), (6, .long x6), (8, .int x8), (9, .long x9), (11, .int x11)] → W p l e (headSpec wsX9_plan rm_X9_plan).room s m args below meth c H locs 0 0 (MQ below (va_Qi Q (hh_B D hh_cl hm_Y cy ad) (hh_A hm_Y ad)) args s 0 0 (hh_A hm_Y ad)) (F0 m 66 ls []) := by
    intro x1 x3 x5 x6 x8 K29 hK29 K47 hK47 n
    induction n with
    | zero => intro x9 x11 σ H locs ls hq h hl; exact hq.elim
    | succ n ih =>
      intro x9 x11 σ H locs ls hq h hl
      have hq : wq_X9_plan_66 K29 K47 x1 x3 x5 x6 x8 Q (hh_lp2 (wq_X9_plan_66 K29 K47 x1 x3 x5 x6 x8 Q) n) x9 x11 σ := hq
      unfold wq_X9_plan_66 at hq
      refine lv_iload hx hb1 dX9_plan_66 (lv_at hl 6 rfl) ?_
      refine lv_iload hx hb1 dX9_plan_68 (lv_at hl 2 rfl) ?_
      refine lv_icmp_ge (tgt := 101) hx hb1 dX9_plan_70 (by decide) (fun c1 => ?_) (fun c1 => ?_)
      · have hq := hq.1 c1
        refine lv_lload hx hb1 dX9_plan_101 (lv_at hl 3 rfl) ?_
        refine lv_lload hx hb1 dX9_plan_103 (lv_at hl 5 rfl) ?_
        refine lv_ladd hx hb1 dX9_plan_105 ?_
        refine lv_lstore (lv' := [(6, .long (x6 + x9)), (1, .int x1), (3, .long x3), (5, .int x5), (8, .int x8), (9, .long x9), (11, .int x11)]) hx hb1 dX9_plan_106 hl (by decide) rfl (fun ls hl => ?_)
        refine lv_iinc (v := (x8 + (1 : Int32))) (lv' := [(8, .int (x8 + (1 : Int32))), (6, .long (x6 + x9)), (1, .int x1), (3, .long x3), (5, .int x5), (9, .long x9), (11, .int x11)]) hx hb1 dX9_plan_108 hl (k := 4) rfl rfl (by decide) rfl (fun ls hl => ?_)
        refine lv_goto (tgt := 47) hx hb1 dX9_plan_111 (by decide) ?_
        exact hK47 (x6 + x9) (x8 + (1 : Int32)) σ _ _ ls hq h (lv_sub hl [2, 3, 4, 1, 0] rfl)
      · have hq := hq.2 c1
        refine lv_lload hx hb1 dX9_plan_73 (lv_at hl 5 rfl) ?_
        refine lv_iload hx hb1 dX9_plan_75 (lv_at hl 6 rfl) ?_
        refine lv_iload hx hb1 dX9_plan_77 (lv_at hl 4 rfl) ?_
        refine lv_icmp_ge (tgt := 87) hx hb1 dX9_plan_79 (by decide) (fun c2 => ?_) (fun c2 => ?_)
        · have hq := hq.1 c2
          refine lv_bipush (v := (100 : Int32)) hx hb1 dX9_plan_87 (by decide) ?_
          refine lv_iload_n hx hb1 dX9_plan_89 rfl (lv_at hl 0 rfl) ?_
          refine lv_isub hx hb1 dX9_plan_90 ?_
          refine lv_i2l (v := (((100 : Int32) - x1)).toInt64) hx hb1 dX9_plan_91 rfl ?_
          refine lv_lmul hx hb1 dX9_plan_92 ?_
          refine lv_topl (fun v3 ev3 => ?_)
          have hq := hq v3 ev3
          refine lv_lstore (lv' := [(9, .long v3), (1, .int x1), (3, .long x3), (5, .int x5), (6, .long x6), (8, .int x8), (11, .int x11)]) hx hb1 dX9_plan_93 hl (by decide) rfl (fun ls hl => ?_)
          refine lv_iinc (v := (x11 + (1 : Int32))) (lv' := [(11, .int (x11 + (1 : Int32))), (9, .long v3), (1, .int x1), (3, .long x3), (5, .int x5), (6, .long x6), (8, .int x8)]) hx hb1 dX9_plan_95 hl (k := 6) rfl rfl (by decide) rfl (fun ls hl => ?_)
          refine lv_goto (tgt := 66) hx hb1 dX9_plan_98 (by decide) ?_
          exact ih v3 (x11 + (1 : Int32)) σ _ _ ls hq h (lv_sub hl [2, 3, 4, 5, 6, 1, 0] rfl)
        · have hq := hq.2 c2
          refine lv_iload_n hx hb1 dX9_plan_82 rfl (lv_at hl 0 rfl) ?_
          refine lv_i2l (v := (x1).toInt64) hx hb1 dX9_plan_83 rfl ?_
          refine lv_goto (tgt := 92) hx hb1 dX9_plan_84 (by decide) ?_
          refine lv_lmul hx hb1 dX9_plan_92 ?_
          refine lv_topl (fun v4 ev4 => ?_)
          have hq := hq v4 ev4
          refine lv_lstore (lv' := [(9, .long v4), (1, .int x1), (3, .long x3), (5, .int x5), (6, .long x6), (8, .int x8), (11, .int x11)]) hx hb1 dX9_plan_93 hl (by decide) rfl (fun ls hl => ?_)
          refine lv_iinc (v := (x11 + (1 : Int32))) (lv' := [(11, .int (x11 + (1 : Int32))), (9, .long v4), (1, .int x1), (3, .long x3), (5, .int x5), (6, .long x6), (8, .int x8)]) hx hb1 dX9_plan_95 hl (k := 6) rfl rfl (by decide) rfl (fun ls hl => ?_)
          refine lv_goto (tgt := 66) hx hb1 dX9_plan_98 (by decide) ?_
          exact ih v4 (x11 + (1 : Int32)) σ _ _ ls hq h (lv_sub hl [2, 3, 4, 5, 6, 1, 0] rfl)
  have lt_47 : ∀ (x1 : Int32) (x3 : Int64) (x5 : Int32) (K29 : Int64 → Int32 → hh_S → Prop) (hK29 : ∀ (x3 : Int64) (x5 : Int32) (σ : hh_S) (H : Heap) (locs : List Loc) (ls : Array Slot), K29 x3 x5 σ → hh_H D hh_cl hm_Y cy ad s.heap σ H locs → lv_has ls 12 [(1, .int x1), (3, .long x3), (5, .int x5)] → W p l e (headSpec wsX9_plan rm_X9_plan).room s m args below meth c H locs 0 0 (MQ below (va_Qi Q (hh_B D hh_cl hm_Y cy ad) (hh_A hm_Y ad)) args s 0 0 (hh_A hm_Y ad)) (F0 m 29 ls [])) (n : Nat) (x6 : Int64) (x8 : Int32) (σ : hh_S) (H : Heap) (locs : List Loc) (ls : Array Slot), hh_lp2 (wq_X9_plan_47 K29 x1 x3 x5 Q) n x6 x8 σ → hh_H D hh_cl hm_Y cy ad s.heap σ H locs → lv_has ls 12 [(1, .int x1), (3, .long x3), (5, .int x5), (6, .long x6), (8, .int x8)] → W p l e (headSpec wsX9_plan rm_X9_plan).room s m args below meth c H locs 0 0 (MQ below (va_Qi Q (hh_B D hh_cl hm_Y cy ad) (hh_A hm_Y ad)) args s 0 0 (hh_A hm_Y ad)) (F0 m 47 ls []) := by
    intro x1 x3 x5 K29 hK29 n
    induction n with
    | zero => intro x6 x8 σ H locs ls hq h hl; exact hq.elim
    | succ n ih =>
      intro x6 x8 σ H locs ls hq h hl
      have hq : wq_X9_plan_47 K29 x1 x3 x5 Q (hh_lp2 (wq_X9_plan_47 K29 x1 x3 x5 Q) n) x6 x8 σ := hq
      unfold wq_X9_plan_47 at hq
      refine lv_iload hx hb1 dX9_plan_47 (lv_at hl 4 rfl) ?_
      refine lv_iload hx hb1 dX9_plan_49 (lv_at hl 2 rfl) ?_
      refine lv_icmp_gt (tgt := 114) hx hb1 dX9_plan_51 (by decide) (fun c5 => ?_) (fun c5 => ?_)
      · have hq := hq.1 c5
        refine lv_lload hx hb1 dX9_plan_114 (lv_at hl 3 rfl) ?_
        refine lv_lload_n hx hb1 dX9_plan_116 rfl (lv_at hl 1 rfl) ?_
        refine W.lcmp hx hb1 dX9_plan_117 ?_
        refine lv_if_lt (tgt := 124) hx hb1 dX9_plan_118 (by decide) (fun c6 => ?_) (fun c6 => ?_)
        · have hq := hq.1 c6
          refine lv_lload_n hx hb1 dX9_plan_124 rfl (lv_at hl 1 rfl) ?_
          refine lv_ldc2 (v := (10000 : Int64)) hx hb1 X.1.2.2.2.1 (X.1.2.2.2.2 _ (List.mem_of_getElem? (i := 1) rfl)) dX9_plan_125 ?_
          refine lv_lmul hx hb1 dX9_plan_128 ?_
          refine lv_topl (fun v7 ev7 => ?_)
          have hq := hq v7 ev7
          refine lv_lstore_n (lv' := [(3, .long v7), (1, .int x1), (5, .int x5), (6, .long x6), (8, .int x8)]) hx hb1 dX9_plan_129 rfl hl (by decide) rfl (fun ls hl => ?_)
          refine lv_iinc (v := (x5 + (2 : Int32))) (lv' := [(5, .int (x5 + (2 : Int32))), (3, .long v7), (1, .int x1), (6, .long x6), (8, .int x8)]) hx hb1 dX9_plan_130 hl (k := 2) rfl rfl (by decide) rfl (fun ls hl => ?_)
          refine lv_goto (tgt := 29) hx hb1 dX9_plan_133 (by decide) ?_
          exact hK29 v7 (x5 + (2 : Int32)) σ _ _ ls hq h (lv_sub hl [2, 1, 0] rfl)
        · have hq := hq.2 c6
          refine lv_iload hx hb1 dX9_plan_121 (lv_at hl 2 rfl) ?_
          exact hh_iret X h hr hlocks hq dX9_plan_123
      · have hq := hq.2 c5
        refine lv_iload hx hb1 dX9_plan_54 (lv_at hl 2 rfl) ?_
        refine lv_iload hx hb1 dX9_plan_56 (lv_at hl 4 rfl) ?_
        refine hh_kL h (va_runS (As := [.int x5, .int x8]) (rest := []) X.1 (ad_X9_choose (D := D) l J x5 x8 σ _ hq) (va_cwS 2 X.1.2.2.2.2 gX9_plan_X9_choose rfl rfl rfl nd_X9_choose ⟨Nat.le_of_ble_eq_true rfl, Nat.le_of_ble_eq_true rfl⟩) (hh_preS X h [.int x5, .int x8]) rfl rfl hl.1 rfl (lv_room (Nat.le_of_ble_eq_true rfl)) dX9_plan_58 ⟨Nat.le_of_ble_eq_true rfl, Nat.le_of_ble_eq_true rfl⟩) (fun r8 σ9 H locs hq h => ?_)
        refine lv_lstore (lv' := [(9, .long r8), (1, .int x1), (3, .long x3), (5, .int x5), (6, .long x6), (8, .int x8)]) hx hb1 dX9_plan_61 hl (by decide) rfl (fun ls hl => ?_)
        refine lv_iconst (v := (0 : Int32)) hx hb1 dX9_plan_63 (by decide) ?_
        refine lv_istore (lv' := [(11, .int (0 : Int32)), (9, .long r8), (1, .int x1), (3, .long x3), (5, .int x5), (6, .long x6), (8, .int x8)]) hx hb1 dX9_plan_64 hl (by decide) rfl (fun ls hl => ?_)
        obtain ⟨n10, hq⟩ := hq
        exact lt_66 x1 x3 x5 x6 x8 K29 hK29 (hh_lp2 (wq_X9_plan_47 K29 x1 x3 x5 Q) n) ih n10 r8 (0 : Int32) σ9 _ _ ls hq h (lv_sub hl [2, 3, 4, 5, 6, 1, 0] rfl)
  have lt_29 : ∀ (x1 : Int32) (n : Nat) (x3 : Int64) (x5 : Int32) (σ : hh_S) (H : Heap) (locs : List Loc) (ls : Array Slot), hh_lp2 (wq_X9_plan_29 x1 Q) n x3 x5 σ → hh_H D hh_cl hm_Y cy ad s.heap σ H locs → lv_has ls 12 [(1, .int x1), (3, .long x3), (5, .int x5)] → W p l e (headSpec wsX9_plan rm_X9_plan).room s m args below meth c H locs 0 0 (MQ below (va_Qi Q (hh_B D hh_cl hm_Y cy ad) (hh_A hm_Y ad)) args s 0 0 (hh_A hm_Y ad)) (F0 m 29 ls []) := by
    intro x1 n
    induction n with
    | zero => intro x3 x5 σ H locs ls hq h hl; exact hq.elim
    | succ n ih =>
      intro x3 x5 σ H locs ls hq h hl
      have hq : wq_X9_plan_29 x1 Q (hh_lp2 (wq_X9_plan_29 x1 Q) n) x3 x5 σ := hq
      unfold wq_X9_plan_29 at hq
      refine lv_iload hx hb1 dX9_plan_29 (lv_at hl 2 rfl) ?_
      refine lv_bipush (v := (9 : Int32)) hx hb1 dX9_plan_31 (by decide) ?_
      refine lv_icmp_gt (tgt := 136) hx hb1 dX9_plan_33 (by decide) (fun c11 => ?_) (fun c11 => ?_)
      · have hq := hq.1 c11
        refine lv_bipush (v := (-6 : Int32)) hx hb1 dX9_plan_136 (by decide) ?_
        exact hh_iret X h hr hlocks hq dX9_plan_138
      · have hq := hq.2 c11
        refine lv_lconst (v := (0 : Int64)) hx hb1 dX9_plan_36 (by decide) ?_
        refine lv_lstore (lv' := [(6, .long (0 : Int64)), (1, .int x1), (3, .long x3), (5, .int x5)]) hx hb1 dX9_plan_37 hl (by decide) rfl (fun ls hl => ?_)
        refine lv_iload hx hb1 dX9_plan_39 (lv_at hl 3 rfl) ?_
        refine lv_iconst (v := (2 : Int32)) hx hb1 dX9_plan_41 (by decide) ?_
        refine lv_idiv hx hb1 dX9_plan_42 (by decide) ?_
        refine lv_iconst (v := (1 : Int32)) hx hb1 dX9_plan_43 (by decide) ?_
        refine lv_iadd hx hb1 dX9_plan_44 ?_
        refine lv_topi (fun v12 ev12 => ?_)
        have hq := hq v12 ev12
        refine lv_istore (lv' := [(8, .int v12), (6, .long (0 : Int64)), (1, .int x1), (3, .long x3), (5, .int x5)]) hx hb1 dX9_plan_45 hl (by decide) rfl (fun ls hl => ?_)
        obtain ⟨n13, hq⟩ := hq
        exact lt_47 x1 x3 x5 (hh_lp2 (wq_X9_plan_29 x1 Q) n) ih n13 (0 : Int64) v12 σ _ _ ls hq h (lv_sub hl [2, 3, 4, 1, 0] rfl)
  subst hargs
  refine hh_entry (vs := [.ref (ad 0), .int x1, .int x2]) (Nat.le_of_ble_eq_true rfl) (fun ls hl => ?_)
  have hl : lv_has ls 12 [(0, .ref (ad 0)), (1, .int x1), (2, .int x2)] := hl
  have hq : wp_X9_plan x1 x2 σ Q := hq
  unfold wp_X9_plan at hq
  refine lv_iload_n hx hb1 dX9_plan_0 rfl (lv_at hl 1 rfl) ?_
  refine lv_iconst (v := (0 : Int32)) hx hb1 dX9_plan_1 (by decide) ?_
  refine lv_bipush (v := (100 : Int32)) hx hb1 dX9_plan_2 (by decide) ?_
  refine hh_kI h (va_runS (As := [.int x1, .int (0 : Int32), .int (100 : Int32)]) (rest := []) X.1 (ad_X9_in (D := D) l J x1 (0 : Int32) (100 : Int32) σ _ hq) (va_cwS 3 X.1.2.2.2.2 gX9_plan_X9_in rfl rfl rfl nd_X9_in ⟨Nat.le_of_ble_eq_true rfl, Nat.le_of_ble_eq_true rfl⟩) (hh_preS X h [.int x1, .int (0 : Int32), .int (100 : Int32)]) rfl rfl hl.1 rfl (lv_room (Nat.le_of_ble_eq_true rfl)) dX9_plan_4 ⟨Nat.le_of_ble_eq_true rfl, Nat.le_of_ble_eq_true rfl⟩) (fun r14 σ15 H locs hq h => ?_)
  refine lv_if_eq (tgt := 20) hx hb1 dX9_plan_7 (by decide) (fun c16 => ?_) (fun c16 => ?_)
  · have hq := hq.1 c16
    refine lv_bipush (v := (-2 : Int32)) hx hb1 dX9_plan_20 (by decide) ?_
    exact hh_iret X h hr hlocks hq dX9_plan_22
  · have hq := hq.2 c16
    refine lv_iload_n hx hb1 dX9_plan_10 rfl (lv_at hl 2 rfl) ?_
    refine lv_iconst (v := (0 : Int32)) hx hb1 dX9_plan_11 (by decide) ?_
    refine lv_bipush (v := (100 : Int32)) hx hb1 dX9_plan_12 (by decide) ?_
    refine hh_kI h (va_runS (As := [.int x2, .int (0 : Int32), .int (100 : Int32)]) (rest := []) X.1 (ad_X9_in (D := D) l J x2 (0 : Int32) (100 : Int32) σ15 _ hq) (va_cwS 3 X.1.2.2.2.2 gX9_plan_X9_in rfl rfl rfl nd_X9_in ⟨Nat.le_of_ble_eq_true rfl, Nat.le_of_ble_eq_true rfl⟩) (hh_preS X h [.int x2, .int (0 : Int32), .int (100 : Int32)]) rfl rfl hl.1 rfl (lv_room (Nat.le_of_ble_eq_true rfl)) dX9_plan_14 ⟨Nat.le_of_ble_eq_true rfl, Nat.le_of_ble_eq_true rfl⟩) (fun r17 σ18 H locs hq h => ?_)
    refine lv_if_ne (tgt := 23) hx hb1 dX9_plan_17 (by decide) (fun c19 => ?_) (fun c19 => ?_)
    · have hq := hq.1 c19
      refine lv_iload_n hx hb1 dX9_plan_23 rfl (lv_at hl 2 rfl) ?_
      refine lv_i2l (v := (x2).toInt64) hx hb1 dX9_plan_24 rfl ?_
      refine lv_topl (fun v20 ev20 => ?_)
      have hq := hq v20 ev20
      refine lv_lstore_n (lv' := [(3, .long v20), (0, .ref (ad 0)), (1, .int x1), (2, .int x2)]) hx hb1 dX9_plan_25 rfl hl (by decide) rfl (fun ls hl => ?_)
      refine lv_iconst (v := (1 : Int32)) hx hb1 dX9_plan_26 (by decide) ?_
      refine lv_istore (lv' := [(5, .int (1 : Int32)), (3, .long v20), (0, .ref (ad 0)), (1, .int x1), (2, .int x2)]) hx hb1 dX9_plan_27 hl (by decide) rfl (fun ls hl => ?_)
      obtain ⟨n21, hq⟩ := hq
      exact lt_29 x1 n21 v20 (1 : Int32) σ18 _ _ ls hq h (lv_sub hl [3, 1, 0] rfl)
    · have hq := hq.2 c19
      refine lv_bipush (v := (-2 : Int32)) hx hb1 dX9_plan_20 (by decide) ?_
      exact hh_iret X h hr hlocks hq dX9_plan_22
theorem nd_X9_told : yX9_told.cls = RX9 ∧ yX9_told.cls ≠ "java/lang/invoke/MethodHandle" ∧ yX9_told.cls ≠ "java/lang/invoke/VarHandle" ∧ (parseMethodDescriptor yX9_told.desc).map (fun d => d.parameters.length) = some 1 := by decide +kernel
abbrev rm_X9_told : Room := { frames := 5, cells := 0, slots := 0, locals := 112 }
def wq_X9_told_88 (Q : Int32 → hh_S → Prop) (K88 : Int32 → Int32 → hh_S → Prop) (x2 : Int32) (x3 : Int32) (σ : hh_S) : Prop := (((hh_I σ 7) ≤ x3 → (Q x2 σ)) ∧ (¬ (hh_I σ 7) ≤ x3 → (wp_X9_isOpen x3 σ (fun (r2 : Int32) (σ3 : hh_S) => ((r2 = 0 → (∀ v5 : Int32, v5 = (x2 ||| (0 : Int32)) → (K88 v5 (x3 + (1 : Int32)) σ3))) ∧ (¬ r2 = 0 → (∀ v6 : Int32, v6 = (x2 ||| ((1 : Int32) <<< (x3 &&& 31))) → (K88 v6 (x3 + (1 : Int32)) σ3))))))))
def wq_X9_told_62 (Q : Int32 → hh_S → Prop) (K62 : Int32 → Int32 → hh_S → Prop) (x2 : Int32) (x3 : Int32) (σ : hh_S) : Prop := (((hh_I σ 13) ≤ x3 → (Q x2 σ)) ∧ (¬ (hh_I σ 13) ≤ x3 → (wp_X9_answersBy x3 σ (fun (r8 : Int32) (σ9 : hh_S) => (K62 (x2 + r8) (x3 + (1 : Int32)) σ9)))))
def wp_X9_told (x1 : Int32) (σ : hh_S) (Q : Int32 → hh_S → Prop) : Prop := ((x1.toInt = 0 → (Q (hh_I σ 0) σ)) ∧ (x1.toInt = 1 → (Q (hh_I σ 2) σ)) ∧ (x1.toInt = 2 → (Q (hh_I σ 7) σ)) ∧ (x1.toInt = 3 → (Q (hh_I σ 13) σ)) ∧ (x1.toInt = 4 → (∃ n : Nat, hh_lp2 (wq_X9_told_62 Q) n (0 : Int32) (0 : Int32) σ)) ∧ (x1.toInt = 5 → (∃ n : Nat, hh_lp2 (wq_X9_told_88 Q) n (0 : Int32) (0 : Int32) σ)) ∧ ((x1.toInt < 0 ∨ 5 < x1.toInt) → (Q (-2 : Int32) σ)))
theorem in_X9_told_X9 : ∀ w ∈ u_ws RX9 TX9 37, w ∈ wsX9_told := fun w h => List.mem_cons_of_mem _ (List.mem_append_right _ h)
set_option maxHeartbeats 4000000 in
set_option maxRecDepth 100000 in
theorem ad_X9_told {D : va_G} (l : Launch) {cy : Nat → ClassId} {ad : Nat → Nat} (J : hh_J hm_Y ad) (x1 : Int32) (σ : hh_S) (Q : Int32 → hh_S → Prop) (hq : wp_X9_told x1 σ Q) : Met l yX9_told wsX9_told rm_X9_told (va_Pc [.ref (ad 0), .int x1] (hh_B D hh_cl hm_Y cy ad σ)) (va_Qi Q (hh_B D hh_cl hm_Y cy ad) (hh_A hm_Y ad)) 0 0 (hh_A hm_Y ad) := by
  refine Met.ofW (cc := cX9_told) (maxL := 4) (ret := (some .int)) (by decide) rfl ?_
  intro p e s m args below meth c s₁ B hml hv
  obtain ⟨hargs, hP0, hK0⟩ := hv
  have hr := B.returns
  have hlocks := B.notSynchronized
  have X : hh_X p m c cX9_told 4 s args wsX9_told RX9 D hh_cl hm_Y cy ad := ⟨⟨B.exec, B.bytes, hml, findClass_of_methodNamed B.named, atoms_spec (ws := wsX9_told) B.pre⟩, hK0, J⟩
  have hx := X.1.1
  have hb1 := X.1.2.1
  have h : hh_H D hh_cl hm_Y cy ad s.heap σ s.heap [] := ⟨hP0, va_S.rf⟩
  have lt_88 : ∀ (n : Nat) (x2 : Int32) (x3 : Int32) (σ : hh_S) (H : Heap) (locs : List Loc) (ls : Array Slot), hh_lp2 (wq_X9_told_88 Q) n x2 x3 σ → hh_H D hh_cl hm_Y cy ad s.heap σ H locs → lv_has ls 4 [(0, .ref (ad 0)), (2, .int x2), (3, .int x3)] → W p l e (headSpec wsX9_told rm_X9_told).room s m args below meth c H locs 0 0 (MQ below (va_Qi Q (hh_B D hh_cl hm_Y cy ad) (hh_A hm_Y ad)) args s 0 0 (hh_A hm_Y ad)) (F0 m 88 ls []) := by
    intro n
    induction n with
    | zero => intro x2 x3 σ H locs ls hq h hl; exact hq.elim
    | succ n ih =>
      intro x2 x3 σ H locs ls hq h hl
      have hq : wq_X9_told_88 Q (hh_lp2 (wq_X9_told_88 Q) n) x2 x3 σ := hq
      unfold wq_X9_told_88 at hq
      refine lv_iload_n hx hb1 dX9_told_88 rfl (lv_at hl 2 rfl) ?_
      refine lv_aload_n hx hb1 dX9_told_89 rfl (lv_at hl 0 rfl) ?_
      refine hh_geti X h (q := 7) fm_0_7 rfl in_X9_told_X9 km_0 (by decide) (List.mem_of_getElem? (i := 3) rfl) rfl dX9_told_90 ?_
      refine lv_icmp_ge (tgt := 120) hx hb1 dX9_told_93 (by decide) (fun c1 => ?_) (fun c1 => ?_)
      · have hq := hq.1 c1
        refine lv_iload_n hx hb1 dX9_told_120 rfl (lv_at hl 1 rfl) ?_
        exact hh_iret X h hr hlocks hq dX9_told_121
      · have hq := hq.2 c1
        refine lv_iload_n hx hb1 dX9_told_96 rfl (lv_at hl 1 rfl) ?_
        refine lv_aload_n hx hb1 dX9_told_97 rfl (lv_at hl 0 rfl) ?_
        refine lv_iload_n hx hb1 dX9_told_98 rfl (lv_at hl 2 rfl) ?_
        refine hh_kI h (va_runV (As := [.int x3]) (rest := [.int x2]) X.1 (ad_X9_isOpen (D := D) l J x3 σ _ hq) (cwV 1 X.1.2.2.2.2 gX9_told_X9_isOpen rfl rfl rfl nd_X9_isOpen ⟨Nat.le_of_ble_eq_true rfl, Nat.le_of_ble_eq_true rfl⟩) (hh_preV X h fm_0_0 km_0 [.int x3]) rfl rfl hl.1 rfl (lv_room (Nat.le_of_ble_eq_true rfl)) dX9_told_99 ⟨Nat.le_of_ble_eq_true rfl, Nat.le_of_ble_eq_true rfl⟩) (fun r2 σ3 H locs hq h => ?_)
        refine lv_if_eq (tgt := 111) hx hb1 dX9_told_102 (by decide) (fun c4 => ?_) (fun c4 => ?_)
        · have hq := hq.1 c4
          refine lv_iconst (v := (0 : Int32)) hx hb1 dX9_told_111 (by decide) ?_
          refine lv_ior hx hb1 dX9_told_112 ?_
          refine lv_topi (fun v5 ev5 => ?_)
          have hq := hq v5 ev5
          refine lv_istore_n (lv' := [(2, .int v5), (0, .ref (ad 0)), (3, .int x3)]) hx hb1 dX9_told_113 rfl hl (by decide) rfl (fun ls hl => ?_)
          refine lv_iinc (v := (x3 + (1 : Int32))) (lv' := [(3, .int (x3 + (1 : Int32))), (2, .int v5), (0, .ref (ad 0))]) hx hb1 dX9_told_114 hl (k := 2) rfl rfl (by decide) rfl (fun ls hl => ?_)
          refine lv_goto (tgt := 88) hx hb1 dX9_told_117 (by decide) ?_
          exact ih v5 (x3 + (1 : Int32)) σ3 _ _ ls hq h (lv_sub hl [2, 1, 0] rfl)
        · have hq := hq.2 c4
          refine lv_iconst (v := (1 : Int32)) hx hb1 dX9_told_105 (by decide) ?_
          refine lv_iload_n hx hb1 dX9_told_106 rfl (lv_at hl 2 rfl) ?_
          refine lv_ishl hx hb1 dX9_told_107 ?_
          refine lv_goto (tgt := 112) hx hb1 dX9_told_108 (by decide) ?_
          refine lv_ior hx hb1 dX9_told_112 ?_
          refine lv_topi (fun v6 ev6 => ?_)
          have hq := hq v6 ev6
          refine lv_istore_n (lv' := [(2, .int v6), (0, .ref (ad 0)), (3, .int x3)]) hx hb1 dX9_told_113 rfl hl (by decide) rfl (fun ls hl => ?_)
          refine lv_iinc (v := (x3 + (1 : Int32))) (lv' := [(3, .int (x3 + (1 : Int32))), (2, .int v6), (0, .ref (ad 0))]) hx hb1 dX9_told_114 hl (k := 2) rfl rfl (by decide) rfl (fun ls hl => ?_)
          refine lv_goto (tgt := 88) hx hb1 dX9_told_117 (by decide) ?_
          exact ih v6 (x3 + (1 : Int32)) σ3 _ _ ls hq h (lv_sub hl [2, 1, 0] rfl)
  have lt_62 : ∀ (n : Nat) (x2 : Int32) (x3 : Int32) (σ : hh_S) (H : Heap) (locs : List Loc) (ls : Array Slot), hh_lp2 (wq_X9_told_62 Q) n x2 x3 σ → hh_H D hh_cl hm_Y cy ad s.heap σ H locs → lv_has ls 4 [(0, .ref (ad 0)), (2, .int x2), (3, .int x3)] → W p l e (headSpec wsX9_told rm_X9_told).room s m args below meth c H locs 0 0 (MQ below (va_Qi Q (hh_B D hh_cl hm_Y cy ad) (hh_A hm_Y ad)) args s 0 0 (hh_A hm_Y ad)) (F0 m 62 ls []) := by
    intro n
    induction n with
    | zero => intro x2 x3 σ H locs ls hq h hl; exact hq.elim
    | succ n ih =>
      intro x2 x3 σ H locs ls hq h hl
      have hq : wq_X9_told_62 Q (hh_lp2 (wq_X9_told_62 Q) n) x2 x3 σ := hq
      unfold wq_X9_told_62 at hq
      refine lv_iload_n hx hb1 dX9_told_62 rfl (lv_at hl 2 rfl) ?_
      refine lv_aload_n hx hb1 dX9_told_63 rfl (lv_at hl 0 rfl) ?_
      refine hh_geti X h (q := 13) fm_0_13 rfl in_X9_told_X9 km_0 (by decide) (List.mem_of_getElem? (i := 4) rfl) rfl dX9_told_64 ?_
      refine lv_icmp_ge (tgt := 84) hx hb1 dX9_told_67 (by decide) (fun c7 => ?_) (fun c7 => ?_)
      · have hq := hq.1 c7
        refine lv_iload_n hx hb1 dX9_told_84 rfl (lv_at hl 1 rfl) ?_
        exact hh_iret X h hr hlocks hq dX9_told_85
      · have hq := hq.2 c7
        refine lv_iload_n hx hb1 dX9_told_70 rfl (lv_at hl 1 rfl) ?_
        refine lv_aload_n hx hb1 dX9_told_71 rfl (lv_at hl 0 rfl) ?_
        refine lv_iload_n hx hb1 dX9_told_72 rfl (lv_at hl 2 rfl) ?_
        refine hh_kI h (va_runV (As := [.int x3]) (rest := [.int x2]) X.1 (ad_X9_answersBy (D := D) l J x3 σ _ hq) (cwV 1 X.1.2.2.2.2 gX9_told_X9_answersBy rfl rfl rfl nd_X9_answersBy ⟨Nat.le_of_ble_eq_true rfl, Nat.le_of_ble_eq_true rfl⟩) (hh_preV X h fm_0_0 km_0 [.int x3]) rfl rfl hl.1 rfl (lv_room (Nat.le_of_ble_eq_true rfl)) dX9_told_73 ⟨Nat.le_of_ble_eq_true rfl, Nat.le_of_ble_eq_true rfl⟩) (fun r8 σ9 H locs hq h => ?_)
        refine lv_iadd hx hb1 dX9_told_76 ?_
        refine lv_istore_n (lv' := [(2, .int (x2 + r8)), (0, .ref (ad 0)), (3, .int x3)]) hx hb1 dX9_told_77 rfl hl (by decide) rfl (fun ls hl => ?_)
        refine lv_iinc (v := (x3 + (1 : Int32))) (lv' := [(3, .int (x3 + (1 : Int32))), (2, .int (x2 + r8)), (0, .ref (ad 0))]) hx hb1 dX9_told_78 hl (k := 2) rfl rfl (by decide) rfl (fun ls hl => ?_)
        refine lv_goto (tgt := 62) hx hb1 dX9_told_81 (by decide) ?_
        exact ih (x2 + r8) (x3 + (1 : Int32)) σ9 _ _ ls hq h (lv_sub hl [2, 1, 0] rfl)
  subst hargs
  refine hh_entry (vs := [.ref (ad 0), .int x1]) (Nat.le_of_ble_eq_true rfl) (fun ls hl => ?_)
  have hl : lv_has ls 4 [(0, .ref (ad 0)), (1, .int x1)] := hl
  have hq : wp_X9_told x1 σ Q := hq
  unfold wp_X9_told at hq
  refine lv_iconst (v := (0 : Int32)) hx hb1 dX9_told_0 (by decide) ?_
  refine lv_istore_n (lv' := [(2, .int (0 : Int32)), (0, .ref (ad 0)), (1, .int x1)]) hx hb1 dX9_told_1 rfl hl (by decide) rfl (fun ls hl => ?_)
  refine lv_iload_n hx hb1 dX9_told_2 rfl (lv_at hl 2 rfl) ?_
  by_cases c10 : x1.toInt = 0
  · have hq := hq.1 c10
    refine hh_tabIn X (off := 37) (tgt := 40) 0 dX9_told_3 c10 (by decide) (by decide) (by decide) (by decide) ?_
    refine lv_aload_n hx hb1 dX9_told_40 rfl (lv_at hl 1 rfl) ?_
    refine hh_geti X h (q := 0) fm_0_0 rfl in_X9_told_X9 km_0 (by decide) (List.mem_of_getElem? (i := 1) rfl) rfl dX9_told_41 ?_
    exact hh_iret X h hr hlocks hq dX9_told_44
  have hq := hq.2
  by_cases c11 : x1.toInt = 1
  · have hq := hq.1 c11
    refine hh_tabIn X (off := 42) (tgt := 45) 1 dX9_told_3 c11 (by decide) (by decide) (by decide) (by decide) ?_
    refine lv_aload_n hx hb1 dX9_told_45 rfl (lv_at hl 1 rfl) ?_
    refine hh_geti X h (q := 2) fm_0_2 rfl in_X9_told_X9 km_0 (by decide) (List.mem_of_getElem? (i := 2) rfl) rfl dX9_told_46 ?_
    exact hh_iret X h hr hlocks hq dX9_told_49
  have hq := hq.2
  by_cases c12 : x1.toInt = 2
  · have hq := hq.1 c12
    refine hh_tabIn X (off := 47) (tgt := 50) 2 dX9_told_3 c12 (by decide) (by decide) (by decide) (by decide) ?_
    refine lv_aload_n hx hb1 dX9_told_50 rfl (lv_at hl 1 rfl) ?_
    refine hh_geti X h (q := 7) fm_0_7 rfl in_X9_told_X9 km_0 (by decide) (List.mem_of_getElem? (i := 3) rfl) rfl dX9_told_51 ?_
    exact hh_iret X h hr hlocks hq dX9_told_54
  have hq := hq.2
  by_cases c13 : x1.toInt = 3
  · have hq := hq.1 c13
    refine hh_tabIn X (off := 52) (tgt := 55) 3 dX9_told_3 c13 (by decide) (by decide) (by decide) (by decide) ?_
    refine lv_aload_n hx hb1 dX9_told_55 rfl (lv_at hl 1 rfl) ?_
    refine hh_geti X h (q := 13) fm_0_13 rfl in_X9_told_X9 km_0 (by decide) (List.mem_of_getElem? (i := 4) rfl) rfl dX9_told_56 ?_
    exact hh_iret X h hr hlocks hq dX9_told_59
  have hq := hq.2
  by_cases c14 : x1.toInt = 4
  · have hq := hq.1 c14
    refine hh_tabIn X (off := 57) (tgt := 60) 4 dX9_told_3 c14 (by decide) (by decide) (by decide) (by decide) ?_
    refine lv_iconst (v := (0 : Int32)) hx hb1 dX9_told_60 (by decide) ?_
    refine lv_istore_n (lv' := [(3, .int (0 : Int32)), (2, .int (0 : Int32)), (0, .ref (ad 0)), (1, .int x1)]) hx hb1 dX9_told_61 rfl hl (by decide) rfl (fun ls hl => ?_)
    obtain ⟨n15, hq⟩ := hq
    exact lt_62 n15 (0 : Int32) (0 : Int32) σ _ _ ls hq h (lv_sub hl [2, 1, 0] rfl)
  have hq := hq.2
  by_cases c16 : x1.toInt = 5
  · have hq := hq.1 c16
    refine hh_tabIn X (off := 83) (tgt := 86) 5 dX9_told_3 c16 (by decide) (by decide) (by decide) (by decide) ?_
    refine lv_iconst (v := (0 : Int32)) hx hb1 dX9_told_86 (by decide) ?_
    refine lv_istore_n (lv' := [(3, .int (0 : Int32)), (2, .int (0 : Int32)), (0, .ref (ad 0)), (1, .int x1)]) hx hb1 dX9_told_87 rfl hl (by decide) rfl (fun ls hl => ?_)
    obtain ⟨n17, hq⟩ := hq
    exact lt_88 n17 (0 : Int32) (0 : Int32) σ _ _ ls hq h (lv_sub hl [2, 1, 0] rfl)
  have hq := hq.2
  have c18 := hh_out5 c10 c11 c12 c13 c14 c16
  have hq := hq c18
  refine hh_tabOut X (tgt := 122) dX9_told_3 c18 (by decide) ?_
  refine lv_bipush (v := (-2 : Int32)) hx hb1 dX9_told_122 (by decide) ?_
  exact hh_iret X h hr hlocks hq dX9_told_124
