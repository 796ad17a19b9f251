theorem nd_X2_endsUnlikeKept : yX2_endsUnlikeKept.cls = RX2 ∧ yX2_endsUnlikeKept.cls ≠ "java/lang/invoke/MethodHandle" ∧ yX2_endsUnlikeKept.cls ≠ "java/lang/invoke/VarHandle" ∧ (parseMethodDescriptor yX2_endsUnlikeKept.desc).map (fun d => d.parameters.length) = some 0 := by decide +kernel
abbrev rm_X2_endsUnlikeKept : Room := { frames := 1, cells := 0, slots := 0, locals := 23 }
def wq_X2_endsUnlikeKept_4 (b : Nat) (Q : Int32 → hh_S → Prop) (K4 : Int32 → Int32 → hh_S → Prop) (x1 : Int32) (x2 : Int32) (σ : hh_S) : Prop := (((hh_I σ 256) ≤ x2 → (Q x1 σ)) ∧ (¬ (hh_I σ 256) ≤ x2 → (vp_in x2 24 ∧ (wp_X2_greatest b x2 σ (fun (r3 : Int32) (σ4 : hh_S) => (((hh_rA σ (35 + 6 * b) x2) = r3 → (K4 x1 (x2 + (1 : Int32)) σ4)) ∧ (¬ (hh_rA σ (35 + 6 * b) x2) = r3 → (∀ v6 : Int32, v6 = (x1 ||| ((1 : Int32) <<< (x2 &&& 31))) → (K4 v6 (x2 + (1 : Int32)) σ4)))))))))
def wp_X2_endsUnlikeKept (b : Nat) (σ : hh_S) (Q : Int32 → hh_S → Prop) : Prop := (∃ n : Nat, hh_lp2 (wq_X2_endsUnlikeKept_4 b Q) n (0 : Int32) (0 : Int32) σ)
theorem in_X2_endsUnlikeKept_X2 : ∀ w ∈ u_ws RX2 TX2 9, w ∈ wsX2_endsUnlikeKept := fun w h => List.mem_cons_of_mem _ (List.mem_append_left _ (List.mem_append_right _ h))
theorem in_X2_endsUnlikeKept_X1 : ∀ w ∈ u_ws RX1 TX1 7, w ∈ wsX2_endsUnlikeKept := fun w h => List.mem_cons_of_mem _ (List.mem_append_right _ h)
set_option maxHeartbeats 4000000 in
set_option maxRecDepth 100000 in
theorem ad_X2_endsUnlikeKept {D : va_G} (l : Launch) {cy : Nat → ClassId} {ad : Nat → Nat} (J : hh_J hc_Y ad) {b : Nat} (hb : b = 0 ∨ b = 1) (σ : hh_S) (Q : Int32 → hh_S → Prop) (hq : wp_X2_endsUnlikeKept b σ Q) : Met l yX2_endsUnlikeKept wsX2_endsUnlikeKept rm_X2_endsUnlikeKept (va_Pc [.ref (ad (7 + b))] (hh_B D hh_cl hc_Y cy ad σ)) (va_Qi Q (hh_B D hh_cl hc_Y cy ad) (hh_A hc_Y ad)) 0 0 (hh_A hc_Y ad) := by
  refine Met.ofW (cc := cX2_endsUnlikeKept) (maxL := 3) (ret := (some .int)) (by decide) rfl ?_
  intro p e s m args below meth c s₁ B hml hv
  obtain ⟨hargs, hP0, hK0⟩ := hv
  have hr := B.returns
  have hlocks := B.notSynchronized
  have X : hh_X p m c cX2_endsUnlikeKept 3 s args wsX2_endsUnlikeKept RX2 D hh_cl hc_Y cy ad := ⟨⟨B.exec, B.bytes, hml, findClass_of_methodNamed B.named, atoms_spec (ws := wsX2_endsUnlikeKept) B.pre⟩, hK0, J⟩
  have hx := X.1.1
  have hb1 := X.1.2.1
  have h : hh_H D hh_cl hc_Y cy ad s.heap σ s.heap [] := ⟨hP0, va_S.rf⟩
  have lt_4 : ∀ (n : Nat) (x1 : Int32) (x2 : Int32) (σ : hh_S) (H : Heap) (locs : List Loc) (ls : Array Slot), hh_lp2 (wq_X2_endsUnlikeKept_4 b Q) n x1 x2 σ → hh_H D hh_cl hc_Y cy ad s.heap σ H locs → lv_has ls 3 [(0, .ref (ad (7 + b))), (1, .int x1), (2, .int x2)] → W p l e (headSpec wsX2_endsUnlikeKept rm_X2_endsUnlikeKept).room s m args below meth c H locs 0 0 (MQ below (va_Qi Q (hh_B D hh_cl hc_Y cy ad) (hh_A hc_Y ad)) args s 0 0 (hh_A hc_Y ad)) (F0 m 4 ls []) := by
    intro n
    induction n with
    | zero => intro x1 x2 σ H locs ls hq h hl; exact hq.elim
    | succ n ih =>
      intro x1 x2 σ H locs ls hq h hl
      have hq : wq_X2_endsUnlikeKept_4 b Q (hh_lp2 (wq_X2_endsUnlikeKept_4 b Q) n) x1 x2 σ := hq
      unfold wq_X2_endsUnlikeKept_4 at hq
      refine lv_iload_n hx hb1 dX2_endsUnlikeKept_4 rfl (lv_at hl 2 rfl) ?_
      refine lv_aload_n hx hb1 dX2_endsUnlikeKept_5 rfl (lv_at hl 0 rfl) ?_
      refine hh_getr X h (fj_2 hb) in_X2_endsUnlikeKept_X2 (kj hb) (by decide) (List.mem_of_getElem? (i := 1) rfl) rfl dX2_endsUnlikeKept_6 ?_
      refine hh_geti X h (q := 256) fc_4_0 rfl in_X2_endsUnlikeKept_X1 kc_4 (by decide) (List.mem_of_getElem? (i := 2) rfl) rfl dX2_endsUnlikeKept_9 ?_
      refine lv_icmp_ge (tgt := 41) hx hb1 dX2_endsUnlikeKept_12 (by decide) (fun c1 => ?_) (fun c1 => ?_)
      · have hq := hq.1 c1
        refine lv_iload_n hx hb1 dX2_endsUnlikeKept_41 rfl (lv_at hl 1 rfl) ?_
        exact hh_iret X h hr hlocks hq dX2_endsUnlikeKept_42
      · have hq := hq.2 c1
        refine lv_aload_n hx hb1 dX2_endsUnlikeKept_15 rfl (lv_at hl 0 rfl) ?_
        refine hh_getr X h (fj_8 hb) in_X2_endsUnlikeKept_X2 (kj hb) (by decide) (List.mem_of_getElem? (i := 3) rfl) rfl dX2_endsUnlikeKept_16 ?_
        refine lv_iload_n hx hb1 dX2_endsUnlikeKept_19 rfl (lv_at hl 2 rfl) ?_
        obtain ⟨h2, hq⟩ := hq
        refine hh_ild X h (aj_35 hb) h2 dX2_endsUnlikeKept_20 ?_
        refine lv_aload_n hx hb1 dX2_endsUnlikeKept_21 rfl (lv_at hl 0 rfl) ?_
        refine lv_iload_n hx hb1 dX2_endsUnlikeKept_22 rfl (lv_at hl 2 rfl) ?_
        refine hh_kI h (va_runV (As := [.int x2]) (rest := [.int (hh_rA σ (35 + 6 * b) x2)]) X.1 (ad_X2_greatest (D := D) l J (b := b) hb x2 σ _ hq) (cwV 1 X.1.2.2.2.2 gX2_endsUnlikeKept_X2_greatest rfl rfl rfl nd_X2_greatest ⟨Nat.le_of_ble_eq_true rfl, Nat.le_of_ble_eq_true rfl⟩) (hh_preV X h (fj_0 hb) (kj hb) [.int x2]) rfl rfl hl.1 rfl (lv_room (Nat.le_of_ble_eq_true rfl)) dX2_endsUnlikeKept_23 ⟨Nat.le_of_ble_eq_true rfl, Nat.le_of_ble_eq_true rfl⟩) (fun r3 σ4 H locs hq h => ?_)
        refine lv_icmp_eq (tgt := 35) hx hb1 dX2_endsUnlikeKept_26 (by decide) (fun c5 => ?_) (fun c5 => ?_)
        · have hq := hq.1 c5
          refine lv_iinc (v := (x2 + (1 : Int32))) (lv' := [(2, .int (x2 + (1 : Int32))), (0, .ref (ad (7 + b))), (1, .int x1)]) hx hb1 dX2_endsUnlikeKept_35 hl (k := 2) rfl rfl (by decide) rfl (fun ls hl => ?_)
          refine lv_goto (tgt := 4) hx hb1 dX2_endsUnlikeKept_38 (by decide) ?_
          exact ih x1 (x2 + (1 : Int32)) σ4 _ _ ls hq h (lv_sub hl [1, 2, 0] rfl)
        · have hq := hq.2 c5
          refine lv_iload_n hx hb1 dX2_endsUnlikeKept_29 rfl (lv_at hl 1 rfl) ?_
          refine lv_iconst (v := (1 : Int32)) hx hb1 dX2_endsUnlikeKept_30 (by decide) ?_
          refine lv_iload_n hx hb1 dX2_endsUnlikeKept_31 rfl (lv_at hl 2 rfl) ?_
          refine lv_ishl hx hb1 dX2_endsUnlikeKept_32 ?_
          refine lv_ior hx hb1 dX2_endsUnlikeKept_33 ?_
          refine lv_topi (fun v6 ev6 => ?_)
          have hq := hq v6 ev6
          refine lv_istore_n (lv' := [(1, .int v6), (0, .ref (ad (7 + b))), (2, .int x2)]) hx hb1 dX2_endsUnlikeKept_34 rfl hl (by decide) rfl (fun ls hl => ?_)
          refine lv_iinc (v := (x2 + (1 : Int32))) (lv' := [(2, .int (x2 + (1 : Int32))), (1, .int v6), (0, .ref (ad (7 + b)))]) hx hb1 dX2_endsUnlikeKept_35 hl (k := 2) rfl rfl (by decide) rfl (fun ls hl => ?_)
          refine lv_goto (tgt := 4) hx hb1 dX2_endsUnlikeKept_38 (by decide) ?_
          exact ih v6 (x2 + (1 : Int32)) σ4 _ _ ls hq h (lv_sub hl [2, 1, 0] rfl)
  subst hargs
  refine hh_entry (vs := [.ref (ad (7 + b))]) (Nat.le_of_ble_eq_true rfl) (fun ls hl => ?_)
  have hl : lv_has ls 3 [(0, .ref (ad (7 + b)))] := hl
  have hq : wp_X2_endsUnlikeKept b σ Q := hq
  unfold wp_X2_endsUnlikeKept at hq
  refine lv_iconst (v := (0 : Int32)) hx hb1 dX2_endsUnlikeKept_0 (by decide) ?_
  refine lv_istore_n (lv' := [(1, .int (0 : Int32)), (0, .ref (ad (7 + b)))]) hx hb1 dX2_endsUnlikeKept_1 rfl hl (by decide) rfl (fun ls hl => ?_)
  refine lv_iconst (v := (0 : Int32)) hx hb1 dX2_endsUnlikeKept_2 (by decide) ?_
  refine lv_istore_n (lv' := [(2, .int (0 : Int32)), (1, .int (0 : Int32)), (0, .ref (ad (7 + b)))]) hx hb1 dX2_endsUnlikeKept_3 rfl hl (by decide) rfl (fun ls hl => ?_)
  obtain ⟨n7, hq⟩ := hq
  exact lt_4 n7 (0 : Int32) (0 : Int32) σ _ _ ls hq h (lv_sub hl [2, 1, 0] rfl)
