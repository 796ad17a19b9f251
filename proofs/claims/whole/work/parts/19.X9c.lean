theorem nd_X9_beginShares : yX9_beginShares.cls = RX9 ∧ yX9_beginShares.cls ≠ "java/lang/invoke/MethodHandle" ∧ yX9_beginShares.cls ≠ "java/lang/invoke/VarHandle" ∧ (parseMethodDescriptor yX9_beginShares.desc).map (fun d => d.parameters.length) = some 0 := by decide +kernel
abbrev rm_X9_beginShares : Room := { frames := 2, cells := 0, slots := 0, locals := 45 }
def wq_X9_beginShares_33 (K2 : Int32 → hh_S → Prop) (K18 : Int32 → hh_S → Prop) (x1 : Int32) (x2 : Int32) (x3 : Int32) (Q : hh_S → Prop) (K33 : Int32 → Int32 → hh_S → Prop) (x4 : Int32) (x5 : Int32) (σ : hh_S) : Prop := (((hh_I σ 13) ≤ x5 → (wp_X9_fixed x1 σ (fun (r2 : Int32) (σ3 : hh_S) => ((r2 < 0 → ((x2 ≤ 0 → (wp_X9_labelsOf x1 σ3 (fun (r6 : Int32) (σ7 : hh_S) => ((¬ r6 = 0) ∧ (vp_in (((4 : Int32) * x1) + x3) 96 ∧ ∀ σ10 : hh_S, σ10 = hh_sA σ7 17 (((4 : Int32) * x1) + x3) ((1000000 : Int32) / r6) → (K18 (x3 + (1 : Int32)) σ10)))))) ∧ (¬ x2 ≤ 0 → ((¬ x2 = 0) ∧ (vp_in (((4 : Int32) * x1) + x3) 96 ∧ ∀ σ13 : hh_S, σ13 = hh_sA σ3 17 (((4 : Int32) * x1) + x3) (((1000000 : Int32) * x4) / x2) → (K18 (x3 + (1 : Int32)) σ13)))))) ∧ (¬ r2 < 0 → ((¬ r2 = x3 → (vp_in (((4 : Int32) * x1) + x3) 96 ∧ ∀ σ16 : hh_S, σ16 = hh_sA σ3 17 (((4 : Int32) * x1) + x3) (0 : Int32) → (K18 (x3 + (1 : Int32)) σ16))) ∧ (r2 = x3 → (vp_in (((4 : Int32) * x1) + x3) 96 ∧ ∀ σ18 : hh_S, σ18 = hh_sA σ3 17 (((4 : Int32) * x1) + x3) (1000000 : Int32) → (K18 (x3 + (1 : Int32)) σ18))))))))) ∧ (¬ (hh_I σ 13) ≤ x5 → (wp_X9_counts x5 x1 σ (fun (r19 : Int32) (σ20 : hh_S) => ((r19 = 0 → (∀ v22 : Int32, v22 = (x4 + (0 : Int32)) → (K33 v22 (x5 + (1 : Int32)) σ20))) ∧ (¬ r19 = 0 → (vp_in (((24 : Int32) * x5) + x1) 240 ∧ ((¬ (hh_rA σ20 13 (((24 : Int32) * x5) + x1)) = (x3 + (1 : Int32)) → (∀ v25 : Int32, v25 = (x4 + (0 : Int32)) → (K33 v25 (x5 + (1 : Int32)) σ20))) ∧ ((hh_rA σ20 13 (((24 : Int32) * x5) + x1)) = (x3 + (1 : Int32)) → (∀ v26 : Int32, v26 = (x4 + (1 : Int32)) → (K33 v26 (x5 + (1 : Int32)) σ20)))))))))))
def wq_X9_beginShares_18 (K2 : Int32 → hh_S → Prop) (x1 : Int32) (x2 : Int32) (Q : hh_S → Prop) (K18 : Int32 → hh_S → Prop) (x3 : Int32) (σ : hh_S) : Prop := (wp_X9_labelsOf x1 σ (fun (r27 : Int32) (σ28 : hh_S) => ((r27 ≤ x3 → (K2 (x1 + (1 : Int32)) σ28)) ∧ (¬ r27 ≤ x3 → (∃ n : Nat, hh_lp2 (wq_X9_beginShares_33 K2 K18 x1 x2 x3 Q) n (0 : Int32) (0 : Int32) σ28)))))
def wq_X9_beginShares_2 (Q : hh_S → Prop) (K2 : Int32 → hh_S → Prop) (x1 : Int32) (σ : hh_S) : Prop := (((hh_I σ 7) ≤ x1 → (Q σ)) ∧ (¬ (hh_I σ 7) ≤ x1 → (wp_X9_countOf x1 σ (fun (r32 : Int32) (σ33 : hh_S) => (∃ n : Nat, hh_lp1 (wq_X9_beginShares_18 K2 x1 r32 Q) n (0 : Int32) σ33)))))
def wp_X9_beginShares (σ : hh_S) (Q : hh_S → Prop) : Prop := (∃ n : Nat, hh_lp1 (wq_X9_beginShares_2 Q) n (0 : Int32) σ)
theorem in_X9_beginShares_X9 : ∀ w ∈ u_ws RX9 TX9 37, w ∈ wsX9_beginShares := fun w h => List.mem_cons_of_mem _ (List.mem_append_right _ h)
set_option maxHeartbeats 4000000 in
set_option maxRecDepth 100000 in
theorem ad_X9_beginShares {D : va_G} (l : Launch) {cy : Nat → ClassId} {ad : Nat → Nat} (J : hh_J hm_Y ad) (σ : hh_S) (Q : hh_S → Prop) (hq : wp_X9_beginShares σ Q) : Met l yX9_beginShares wsX9_beginShares rm_X9_beginShares (va_Pc [.ref (ad 0)] (hh_B D hh_cl hm_Y cy ad σ)) (va_Qv Q (hh_B D hh_cl hm_Y cy ad) (hh_A hm_Y ad)) 0 0 (hh_A hm_Y ad) := by
  refine Met.ofW (cc := cX9_beginShares) (maxL := 6) (ret := none) (by decide) rfl ?_
  intro p e s m args below meth c s₁ B hml hv
  obtain ⟨hargs, hP0, hK0⟩ := hv
  have hr := B.returns
  have hlocks := B.notSynchronized
  have X : hh_X p m c cX9_beginShares 6 s args wsX9_beginShares RX9 D hh_cl hm_Y cy ad := ⟨⟨B.exec, B.bytes, hml, findClass_of_methodNamed B.named, atoms_spec (ws := wsX9_beginShares) B.pre⟩, hK0, J⟩
  have hx := X.1.1
  have hb1 := X.1.2.1
  have h : hh_H D hh_cl hm_Y cy ad s.heap σ s.heap [] := ⟨hP0, va_S.rf⟩
  have lt_33 : ∀ (x1 : Int32) (x2 : Int32) (x3 : Int32) (K2 : Int32 → hh_S → Prop) (hK2 : ∀ (x1 : Int32) (σ : hh_S) (H : Heap) (locs : List Loc) (ls : Array Slot), K2 x1 σ → hh_H D hh_cl hm_Y cy ad s.heap σ H locs → lv_has ls 6 [(0, .ref (ad 0)), (1, .int x1)] → W p l e (headSpec wsX9_beginShares rm_X9_beginShares).room s m args below meth c H locs 0 0 (MQ below (va_Qv Q (hh_B D hh_cl hm_Y cy ad) (hh_A hm_Y ad)) args s 0 0 (hh_A hm_Y ad)) (F0 m 2 ls [])) (K18 : Int32 → hh_S → Prop) (hK18 : ∀ (x3 : Int32) (σ : hh_S) (H : Heap) (locs : List Loc) (ls : Array Slot), K18 x3 σ → hh_H D hh_cl hm_Y cy ad s.heap σ H locs → lv_has ls 6 [(0, .ref (ad 0)), (1, .int x1), (2, .int x2), (3, .int x3)] → W p l e (headSpec wsX9_beginShares rm_X9_beginShares).room s m args below meth c H locs 0 0 (MQ below (va_Qv Q (hh_B D hh_cl hm_Y cy ad) (hh_A hm_Y ad)) args s 0 0 (hh_A hm_Y ad)) (F0 m 18 ls [])) (n : Nat) (x4 : Int32) (x5 : Int32) (σ : hh_S) (H : Heap) (locs : List Loc) (ls : Array Slot), hh_lp2 (wq_X9_beginShares_33 K2 K18 x1 x2 x3 Q) n x4 x5 σ → hh_H D hh_cl hm_Y cy ad s.heap σ H locs → lv_has ls 6 [(0, .ref (ad 0)), (1, .int x1), (2, .int x2), (3, .int x3), (4, .int x4), (5, .int x5)] → W p l e (headSpec wsX9_beginShares rm_X9_beginShares).room s m args below meth c H locs 0 0 (MQ below (va_Qv Q (hh_B D hh_cl hm_Y cy ad) (hh_A hm_Y ad)) args s 0 0 (hh_A hm_Y ad)) (F0 m 33 ls []) := by
    intro x1 x2 x3 K2 hK2 K18 hK18 n
    induction n with
    | zero => intro x4 x5 σ H locs ls hq h hl; exact hq.elim
    | succ n ih =>
      intro x4 x5 σ H locs ls hq h hl
      have hq : wq_X9_beginShares_33 K2 K18 x1 x2 x3 Q (hh_lp2 (wq_X9_beginShares_33 K2 K18 x1 x2 x3 Q) n) x4 x5 σ := hq
      unfold wq_X9_beginShares_33 at hq
      refine lv_iload hx hb1 dX9_beginShares_33 (lv_at hl 5 rfl) ?_
      refine lv_aload_n hx hb1 dX9_beginShares_35 rfl (lv_at hl 0 rfl) ?_
      refine hh_geti X h (q := 13) fm_0_13 rfl in_X9_beginShares_X9 km_0 (by decide) (List.mem_of_getElem? (i := 2) rfl) rfl dX9_beginShares_36 ?_
      refine lv_icmp_ge (tgt := 86) hx hb1 dX9_beginShares_39 (by decide) (fun c1 => ?_) (fun c1 => ?_)
      · have hq := hq.1 c1
        refine lv_aload_n hx hb1 dX9_beginShares_86 rfl (lv_at hl 0 rfl) ?_
        refine lv_iload_n hx hb1 dX9_beginShares_87 rfl (lv_at hl 1 rfl) ?_
        refine hh_kI h (va_runV (As := [.int x1]) (rest := []) X.1 (ad_X9_fixed (D := D) l J x1 σ _ hq) (cwV 1 X.1.2.2.2.2 gX9_beginShares_X9_fixed rfl rfl rfl nd_X9_fixed ⟨Nat.le_of_ble_eq_true rfl, Nat.le_of_ble_eq_true rfl⟩) (hh_preV X h fm_0_0 km_0 [.int x1]) rfl rfl hl.1 rfl (lv_room (Nat.le_of_ble_eq_true rfl)) dX9_beginShares_88 ⟨Nat.le_of_ble_eq_true rfl, Nat.le_of_ble_eq_true rfl⟩) (fun r2 σ3 H locs hq h => ?_)
        refine lv_istore (lv' := [(5, .int r2), (0, .ref (ad 0)), (1, .int x1), (2, .int x2), (3, .int x3), (4, .int x4)]) hx hb1 dX9_beginShares_91 hl (by decide) rfl (fun ls hl => ?_)
        refine lv_aload_n hx hb1 dX9_beginShares_93 rfl (lv_at hl 1 rfl) ?_
        refine hh_getr X h fm_0_23 in_X9_beginShares_X9 km_0 (by decide) (List.mem_of_getElem? (i := 4) rfl) rfl dX9_beginShares_94 ?_
        refine lv_iconst (v := (4 : Int32)) hx hb1 dX9_beginShares_97 (by decide) ?_
        refine lv_iload_n hx hb1 dX9_beginShares_98 rfl (lv_at hl 2 rfl) ?_
        refine lv_imul hx hb1 dX9_beginShares_99 ?_
        refine lv_iload_n hx hb1 dX9_beginShares_100 rfl (lv_at hl 4 rfl) ?_
        refine lv_iadd hx hb1 dX9_beginShares_101 ?_
        refine lv_iload hx hb1 dX9_beginShares_102 (lv_at hl 0 rfl) ?_
        refine lv_if_lt (tgt := 122) hx hb1 dX9_beginShares_104 (by decide) (fun c4 => ?_) (fun c4 => ?_)
        · have hq := hq.1 c4
          refine lv_iload_n hx hb1 dX9_beginShares_122 rfl (lv_at hl 3 rfl) ?_
          refine lv_if_le (tgt := 136) hx hb1 dX9_beginShares_123 (by decide) (fun c5 => ?_) (fun c5 => ?_)
          · have hq := hq.1 c5
            refine lv_ldc (v := (1000000 : Int32)) hx hb1 X.1.2.2.2.1 (X.1.2.2.2.2 _ (List.mem_of_getElem? (i := 5) rfl)) dX9_beginShares_136 ?_
            refine lv_aload_n hx hb1 dX9_beginShares_138 rfl (lv_at hl 1 rfl) ?_
            refine lv_iload_n hx hb1 dX9_beginShares_139 rfl (lv_at hl 2 rfl) ?_
            refine hh_kI h (va_runV (As := [.int x1]) (rest := [.int (1000000 : Int32), .int (((4 : Int32) * x1) + x3), .ref (ad 17)]) X.1 (ad_X9_labelsOf (D := D) l J x1 σ3 _ hq) (cwV 1 X.1.2.2.2.2 gX9_beginShares_X9_labelsOf rfl rfl rfl nd_X9_labelsOf ⟨Nat.le_of_ble_eq_true rfl, Nat.le_of_ble_eq_true rfl⟩) (hh_preV X h fm_0_0 km_0 [.int x1]) rfl rfl hl.1 rfl (lv_room (Nat.le_of_ble_eq_true rfl)) dX9_beginShares_140 ⟨Nat.le_of_ble_eq_true rfl, Nat.le_of_ble_eq_true rfl⟩) (fun r6 σ7 H locs hq h => ?_)
            obtain ⟨h8, hq⟩ := hq
            refine lv_idiv hx hb1 dX9_beginShares_143 h8 ?_
            obtain ⟨h9, hq⟩ := hq
            refine hh_ist X h am_17 h9 dX9_beginShares_144 (fun σ10 H locs eσ10 h => ?_)
            have hq := hq σ10 eσ10
            refine lv_iinc (v := (x3 + (1 : Int32))) (lv' := [(3, .int (x3 + (1 : Int32))), (5, .int r2), (0, .ref (ad 0)), (1, .int x1), (2, .int x2), (4, .int x4)]) hx hb1 dX9_beginShares_145 hl (k := 4) rfl rfl (by decide) rfl (fun ls hl => ?_)
            refine lv_goto (tgt := 18) hx hb1 dX9_beginShares_148 (by decide) ?_
            exact hK18 (x3 + (1 : Int32)) σ10 _ _ ls hq h (lv_sub hl [2, 3, 4, 0] rfl)
          · have hq := hq.2 c5
            refine lv_ldc (v := (1000000 : Int32)) hx hb1 X.1.2.2.2.1 (X.1.2.2.2.2 _ (List.mem_of_getElem? (i := 5) rfl)) dX9_beginShares_126 ?_
            refine lv_iload hx hb1 dX9_beginShares_128 (lv_at hl 5 rfl) ?_
            refine lv_imul hx hb1 dX9_beginShares_130 ?_
            refine lv_iload_n hx hb1 dX9_beginShares_131 rfl (lv_at hl 3 rfl) ?_
            obtain ⟨h11, hq⟩ := hq
            refine lv_idiv hx hb1 dX9_beginShares_132 h11 ?_
            refine lv_goto (tgt := 144) hx hb1 dX9_beginShares_133 (by decide) ?_
            obtain ⟨h12, hq⟩ := hq
            refine hh_ist X h am_17 h12 dX9_beginShares_144 (fun σ13 H locs eσ13 h => ?_)
            have hq := hq σ13 eσ13
            refine lv_iinc (v := (x3 + (1 : Int32))) (lv' := [(3, .int (x3 + (1 : Int32))), (5, .int r2), (0, .ref (ad 0)), (1, .int x1), (2, .int x2), (4, .int x4)]) hx hb1 dX9_beginShares_145 hl (k := 4) rfl rfl (by decide) rfl (fun ls hl => ?_)
            refine lv_goto (tgt := 18) hx hb1 dX9_beginShares_148 (by decide) ?_
            exact hK18 (x3 + (1 : Int32)) σ13 _ _ ls hq h (lv_sub hl [2, 3, 4, 0] rfl)
        · have hq := hq.2 c4
          refine lv_iload hx hb1 dX9_beginShares_107 (lv_at hl 0 rfl) ?_
          refine lv_iload_n hx hb1 dX9_beginShares_109 rfl (lv_at hl 4 rfl) ?_
          refine lv_icmp_ne (tgt := 118) hx hb1 dX9_beginShares_110 (by decide) (fun c14 => ?_) (fun c14 => ?_)
          · have hq := hq.1 c14
            refine lv_iconst (v := (0 : Int32)) hx hb1 dX9_beginShares_118 (by decide) ?_
            refine lv_goto (tgt := 144) hx hb1 dX9_beginShares_119 (by decide) ?_
            obtain ⟨h15, hq⟩ := hq
            refine hh_ist X h am_17 h15 dX9_beginShares_144 (fun σ16 H locs eσ16 h => ?_)
            have hq := hq σ16 eσ16
            refine lv_iinc (v := (x3 + (1 : Int32))) (lv' := [(3, .int (x3 + (1 : Int32))), (5, .int r2), (0, .ref (ad 0)), (1, .int x1), (2, .int x2), (4, .int x4)]) hx hb1 dX9_beginShares_145 hl (k := 4) rfl rfl (by decide) rfl (fun ls hl => ?_)
            refine lv_goto (tgt := 18) hx hb1 dX9_beginShares_148 (by decide) ?_
            exact hK18 (x3 + (1 : Int32)) σ16 _ _ ls hq h (lv_sub hl [2, 3, 4, 0] rfl)
          · have hq := hq.2 c14
            refine lv_ldc (v := (1000000 : Int32)) hx hb1 X.1.2.2.2.1 (X.1.2.2.2.2 _ (List.mem_of_getElem? (i := 5) rfl)) dX9_beginShares_113 ?_
            refine lv_goto (tgt := 144) hx hb1 dX9_beginShares_115 (by decide) ?_
            obtain ⟨h17, hq⟩ := hq
            refine hh_ist X h am_17 h17 dX9_beginShares_144 (fun σ18 H locs eσ18 h => ?_)
            have hq := hq σ18 eσ18
            refine lv_iinc (v := (x3 + (1 : Int32))) (lv' := [(3, .int (x3 + (1 : Int32))), (5, .int r2), (0, .ref (ad 0)), (1, .int x1), (2, .int x2), (4, .int x4)]) hx hb1 dX9_beginShares_145 hl (k := 4) rfl rfl (by decide) rfl (fun ls hl => ?_)
            refine lv_goto (tgt := 18) hx hb1 dX9_beginShares_148 (by decide) ?_
            exact hK18 (x3 + (1 : Int32)) σ18 _ _ ls hq h (lv_sub hl [2, 3, 4, 0] rfl)
      · have hq := hq.2 c1
        refine lv_iload hx hb1 dX9_beginShares_42 (lv_at hl 4 rfl) ?_
        refine lv_aload_n hx hb1 dX9_beginShares_44 rfl (lv_at hl 0 rfl) ?_
        refine lv_iload hx hb1 dX9_beginShares_45 (lv_at hl 5 rfl) ?_
        refine lv_iload_n hx hb1 dX9_beginShares_47 rfl (lv_at hl 1 rfl) ?_
        refine hh_kI h (va_runV (As := [.int x5, .int x1]) (rest := [.int x4]) X.1 (ad_X9_counts (D := D) l J x5 x1 σ _ hq) (cwV 2 X.1.2.2.2.2 gX9_beginShares_X9_counts rfl rfl rfl nd_X9_counts ⟨Nat.le_of_ble_eq_true rfl, Nat.le_of_ble_eq_true rfl⟩) (hh_preV X h fm_0_0 km_0 [.int x5, .int x1]) rfl rfl hl.1 rfl (lv_room (Nat.le_of_ble_eq_true rfl)) dX9_beginShares_48 ⟨Nat.le_of_ble_eq_true rfl, Nat.le_of_ble_eq_true rfl⟩) (fun r19 σ20 H locs hq h => ?_)
        refine lv_if_eq (tgt := 76) hx hb1 dX9_beginShares_51 (by decide) (fun c21 => ?_) (fun c21 => ?_)
        · have hq := hq.1 c21
          refine lv_iconst (v := (0 : Int32)) hx hb1 dX9_beginShares_76 (by decide) ?_
          refine lv_iadd hx hb1 dX9_beginShares_77 ?_
          refine lv_topi (fun v22 ev22 => ?_)
          have hq := hq v22 ev22
          refine lv_istore (lv' := [(4, .int v22), (0, .ref (ad 0)), (1, .int x1), (2, .int x2), (3, .int x3), (5, .int x5)]) hx hb1 dX9_beginShares_78 hl (by decide) rfl (fun ls hl => ?_)
          refine lv_iinc (v := (x5 + (1 : Int32))) (lv' := [(5, .int (x5 + (1 : Int32))), (4, .int v22), (0, .ref (ad 0)), (1, .int x1), (2, .int x2), (3, .int x3)]) hx hb1 dX9_beginShares_80 hl (k := 5) rfl rfl (by decide) rfl (fun ls hl => ?_)
          refine lv_goto (tgt := 33) hx hb1 dX9_beginShares_83 (by decide) ?_
          exact ih v22 (x5 + (1 : Int32)) σ20 _ _ ls hq h (lv_sub hl [2, 3, 4, 5, 1, 0] rfl)
        · have hq := hq.2 c21
          refine lv_aload_n hx hb1 dX9_beginShares_54 rfl (lv_at hl 0 rfl) ?_
          refine hh_getr X h fm_0_16 in_X9_beginShares_X9 km_0 (by decide) (List.mem_of_getElem? (i := 3) rfl) rfl dX9_beginShares_55 ?_
          refine lv_bipush (v := (24 : Int32)) hx hb1 dX9_beginShares_58 (by decide) ?_
          refine lv_iload hx hb1 dX9_beginShares_60 (lv_at hl 5 rfl) ?_
          refine lv_imul hx hb1 dX9_beginShares_62 ?_
          refine lv_iload_n hx hb1 dX9_beginShares_63 rfl (lv_at hl 1 rfl) ?_
          refine lv_iadd hx hb1 dX9_beginShares_64 ?_
          obtain ⟨h23, hq⟩ := hq
          refine hh_ild X h am_13 h23 dX9_beginShares_65 ?_
          refine lv_iload_n hx hb1 dX9_beginShares_66 rfl (lv_at hl 3 rfl) ?_
          refine lv_iconst (v := (1 : Int32)) hx hb1 dX9_beginShares_67 (by decide) ?_
          refine lv_iadd hx hb1 dX9_beginShares_68 ?_
          refine lv_icmp_ne (tgt := 76) hx hb1 dX9_beginShares_69 (by decide) (fun c24 => ?_) (fun c24 => ?_)
          · have hq := hq.1 c24
            refine lv_iconst (v := (0 : Int32)) hx hb1 dX9_beginShares_76 (by decide) ?_
            refine lv_iadd hx hb1 dX9_beginShares_77 ?_
            refine lv_topi (fun v25 ev25 => ?_)
            have hq := hq v25 ev25
            refine lv_istore (lv' := [(4, .int v25), (0, .ref (ad 0)), (1, .int x1), (2, .int x2), (3, .int x3), (5, .int x5)]) hx hb1 dX9_beginShares_78 hl (by decide) rfl (fun ls hl => ?_)
            refine lv_iinc (v := (x5 + (1 : Int32))) (lv' := [(5, .int (x5 + (1 : Int32))), (4, .int v25), (0, .ref (ad 0)), (1, .int x1), (2, .int x2), (3, .int x3)]) hx hb1 dX9_beginShares_80 hl (k := 5) rfl rfl (by decide) rfl (fun ls hl => ?_)
            refine lv_goto (tgt := 33) hx hb1 dX9_beginShares_83 (by decide) ?_
            exact ih v25 (x5 + (1 : Int32)) σ20 _ _ ls hq h (lv_sub hl [2, 3, 4, 5, 1, 0] rfl)
          · have hq := hq.2 c24
            refine lv_iconst (v := (1 : Int32)) hx hb1 dX9_beginShares_72 (by decide) ?_
            refine lv_goto (tgt := 77) hx hb1 dX9_beginShares_73 (by decide) ?_
            refine lv_iadd hx hb1 dX9_beginShares_77 ?_
            refine lv_topi (fun v26 ev26 => ?_)
            have hq := hq v26 ev26
            refine lv_istore (lv' := [(4, .int v26), (0, .ref (ad 0)), (1, .int x1), (2, .int x2), (3, .int x3), (5, .int x5)]) hx hb1 dX9_beginShares_78 hl (by decide) rfl (fun ls hl => ?_)
            refine lv_iinc (v := (x5 + (1 : Int32))) (lv' := [(5, .int (x5 + (1 : Int32))), (4, .int v26), (0, .ref (ad 0)), (1, .int x1), (2, .int x2), (3, .int x3)]) hx hb1 dX9_beginShares_80 hl (k := 5) rfl rfl (by decide) rfl (fun ls hl => ?_)
            refine lv_goto (tgt := 33) hx hb1 dX9_beginShares_83 (by decide) ?_
            exact ih v26 (x5 + (1 : Int32)) σ20 _ _ ls hq h (lv_sub hl [2, 3, 4, 5, 1, 0] rfl)
  have lt_18 : ∀ (x1 : Int32) (x2 : Int32) (K2 : Int32 → hh_S → Prop) (hK2 : ∀ (x1 : Int32) (σ : hh_S) (H : Heap) (locs : List Loc) (ls : Array Slot), K2 x1 σ → hh_H D hh_cl hm_Y cy ad s.heap σ H locs → lv_has ls 6 [(0, .ref (ad 0)), (1, .int x1)] → W p l e (headSpec wsX9_beginShares rm_X9_beginShares).room s m args below meth c H locs 0 0 (MQ below (va_Qv Q (hh_B D hh_cl hm_Y cy ad) (hh_A hm_Y ad)) args s 0 0 (hh_A hm_Y ad)) (F0 m 2 ls [])) (n : Nat) (x3 : Int32) (σ : hh_S) (H : Heap) (locs : List Loc) (ls : Array Slot), hh_lp1 (wq_X9_beginShares_18 K2 x1 x2 Q) n x3 σ → hh_H D hh_cl hm_Y cy ad s.heap σ H locs → lv_has ls 6 [(0, .ref (ad 0)), (1, .int x1), (2, .int x2), (3, .int x3)] → W p l e (headSpec wsX9_beginShares rm_X9_beginShares).room s m args below meth c H locs 0 0 (MQ below (va_Qv Q (hh_B D hh_cl hm_Y cy ad) (hh_A hm_Y ad)) args s 0 0 (hh_A hm_Y ad)) (F0 m 18 ls []) := by
    intro x1 x2 K2 hK2 n
    induction n with
    | zero => intro x3 σ H locs ls hq h hl; exact hq.elim
    | succ n ih =>
      intro x3 σ H locs ls hq h hl
      have hq : wq_X9_beginShares_18 K2 x1 x2 Q (hh_lp1 (wq_X9_beginShares_18 K2 x1 x2 Q) n) x3 σ := hq
      unfold wq_X9_beginShares_18 at hq
      refine lv_iload_n hx hb1 dX9_beginShares_18 rfl (lv_at hl 3 rfl) ?_
      refine lv_aload_n hx hb1 dX9_beginShares_19 rfl (lv_at hl 0 rfl) ?_
      refine lv_iload_n hx hb1 dX9_beginShares_20 rfl (lv_at hl 1 rfl) ?_
      refine hh_kI h (va_runV (As := [.int x1]) (rest := [.int x3]) X.1 (ad_X9_labelsOf (D := D) l J x1 σ _ hq) (cwV 1 X.1.2.2.2.2 gX9_beginShares_X9_labelsOf rfl rfl rfl nd_X9_labelsOf ⟨Nat.le_of_ble_eq_true rfl, Nat.le_of_ble_eq_true rfl⟩) (hh_preV X h fm_0_0 km_0 [.int x1]) rfl rfl hl.1 rfl (lv_room (Nat.le_of_ble_eq_true rfl)) dX9_beginShares_21 ⟨Nat.le_of_ble_eq_true rfl, Nat.le_of_ble_eq_true rfl⟩) (fun r27 σ28 H locs hq h => ?_)
      refine lv_icmp_ge (tgt := 151) hx hb1 dX9_beginShares_24 (by decide) (fun c29 => ?_) (fun c29 => ?_)
      · have hq := hq.1 c29
        refine lv_iinc (v := (x1 + (1 : Int32))) (lv' := [(1, .int (x1 + (1 : Int32))), (0, .ref (ad 0)), (2, .int x2), (3, .int x3)]) hx hb1 dX9_beginShares_151 hl (k := 1) rfl rfl (by decide) rfl (fun ls hl => ?_)
        refine lv_goto (tgt := 2) hx hb1 dX9_beginShares_154 (by decide) ?_
        exact hK2 (x1 + (1 : Int32)) σ28 _ _ ls hq h (lv_sub hl [1, 0] rfl)
      · have hq := hq.2 c29
        refine lv_iconst (v := (0 : Int32)) hx hb1 dX9_beginShares_27 (by decide) ?_
        refine lv_istore (lv' := [(4, .int (0 : Int32)), (0, .ref (ad 0)), (1, .int x1), (2, .int x2), (3, .int x3)]) hx hb1 dX9_beginShares_28 hl (by decide) rfl (fun ls hl => ?_)
        refine lv_iconst (v := (0 : Int32)) hx hb1 dX9_beginShares_30 (by decide) ?_
        refine lv_istore (lv' := [(5, .int (0 : Int32)), (4, .int (0 : Int32)), (0, .ref (ad 0)), (1, .int x1), (2, .int x2), (3, .int x3)]) hx hb1 dX9_beginShares_31 hl (by decide) rfl (fun ls hl => ?_)
        obtain ⟨n30, hq⟩ := hq
        exact lt_33 x1 x2 x3 K2 hK2 (hh_lp1 (wq_X9_beginShares_18 K2 x1 x2 Q) n) ih n30 (0 : Int32) (0 : Int32) σ28 _ _ ls hq h (lv_sub hl [2, 3, 4, 5, 1, 0] rfl)
  have lt_2 : ∀ (n : Nat) (x1 : Int32) (σ : hh_S) (H : Heap) (locs : List Loc) (ls : Array Slot), hh_lp1 (wq_X9_beginShares_2 Q) n x1 σ → hh_H D hh_cl hm_Y cy ad s.heap σ H locs → lv_has ls 6 [(0, .ref (ad 0)), (1, .int x1)] → W p l e (headSpec wsX9_beginShares rm_X9_beginShares).room s m args below meth c H locs 0 0 (MQ below (va_Qv Q (hh_B D hh_cl hm_Y cy ad) (hh_A hm_Y ad)) args s 0 0 (hh_A hm_Y ad)) (F0 m 2 ls []) := by
    intro n
    induction n with
    | zero => intro x1 σ H locs ls hq h hl; exact hq.elim
    | succ n ih =>
      intro x1 σ H locs ls hq h hl
      have hq : wq_X9_beginShares_2 Q (hh_lp1 (wq_X9_beginShares_2 Q) n) x1 σ := hq
      unfold wq_X9_beginShares_2 at hq
      refine lv_iload_n hx hb1 dX9_beginShares_2 rfl (lv_at hl 1 rfl) ?_
      refine lv_aload_n hx hb1 dX9_beginShares_3 rfl (lv_at hl 0 rfl) ?_
      refine hh_geti X h (q := 7) fm_0_7 rfl in_X9_beginShares_X9 km_0 (by decide) (List.mem_of_getElem? (i := 1) rfl) rfl dX9_beginShares_4 ?_
      refine lv_icmp_ge (tgt := 157) hx hb1 dX9_beginShares_7 (by decide) (fun c31 => ?_) (fun c31 => ?_)
      · have hq := hq.1 c31
        exact hh_vret X h hr hlocks hq dX9_beginShares_157
      · have hq := hq.2 c31
        refine lv_aload_n hx hb1 dX9_beginShares_10 rfl (lv_at hl 0 rfl) ?_
        refine lv_iload_n hx hb1 dX9_beginShares_11 rfl (lv_at hl 1 rfl) ?_
        refine hh_kI h (va_runV (As := [.int x1]) (rest := []) X.1 (ad_X9_countOf (D := D) l J x1 σ _ hq) (cwV 1 X.1.2.2.2.2 gX9_beginShares_X9_countOf rfl rfl rfl nd_X9_countOf ⟨Nat.le_of_ble_eq_true rfl, Nat.le_of_ble_eq_true rfl⟩) (hh_preV X h fm_0_0 km_0 [.int x1]) rfl rfl hl.1 rfl (lv_room (Nat.le_of_ble_eq_true rfl)) dX9_beginShares_12 ⟨Nat.le_of_ble_eq_true rfl, Nat.le_of_ble_eq_true rfl⟩) (fun r32 σ33 H locs hq h => ?_)
        refine lv_istore_n (lv' := [(2, .int r32), (0, .ref (ad 0)), (1, .int x1)]) hx hb1 dX9_beginShares_15 rfl hl (by decide) rfl (fun ls hl => ?_)
        refine lv_iconst (v := (0 : Int32)) hx hb1 dX9_beginShares_16 (by decide) ?_
        refine lv_istore_n (lv' := [(3, .int (0 : Int32)), (2, .int r32), (0, .ref (ad 0)), (1, .int x1)]) hx hb1 dX9_beginShares_17 rfl hl (by decide) rfl (fun ls hl => ?_)
        obtain ⟨n34, hq⟩ := hq
        exact lt_18 x1 r32 (hh_lp1 (wq_X9_beginShares_2 Q) n) ih n34 (0 : Int32) σ33 _ _ ls hq h (lv_sub hl [2, 3, 1, 0] rfl)
  subst hargs
  refine hh_entry (vs := [.ref (ad 0)]) (Nat.le_of_ble_eq_true rfl) (fun ls hl => ?_)
  have hl : lv_has ls 6 [(0, .ref (ad 0))] := hl
  have hq : wp_X9_beginShares σ Q := hq
  unfold wp_X9_beginShares at hq
  refine lv_iconst (v := (0 : Int32)) hx hb1 dX9_beginShares_0 (by decide) ?_
  refine lv_istore_n (lv' := [(1, .int (0 : Int32)), (0, .ref (ad 0))]) hx hb1 dX9_beginShares_1 rfl hl (by decide) rfl (fun ls hl => ?_)
  obtain ⟨n35, hq⟩ := hq
  exact lt_2 n35 (0 : Int32) σ _ _ ls hq h (lv_sub hl [1, 0] rfl)
theorem nd_X9_saidBy : yX9_saidBy.cls = RX9 ∧ yX9_saidBy.cls ≠ "java/lang/invoke/MethodHandle" ∧ yX9_saidBy.cls ≠ "java/lang/invoke/VarHandle" ∧ (parseMethodDescriptor yX9_saidBy.desc).map (fun d => d.parameters.length) = some 4 := by decide +kernel
abbrev rm_X9_saidBy : Room := { frames := 1, cells := 0, slots := 0, locals := 22 }
def wq_X9_saidBy_16 (x1 : Int32) (x2 : Int32) (x3 : Int32) (x4 : Int32) (Q : Int64 → hh_S → Prop) (K16 : Int64 → Int32 → hh_S → Prop) (x5 : Int64) (x7 : Int32) (σ : hh_S) : Prop := (((hh_I σ 7) ≤ x7 → (Q x5 σ)) ∧ (¬ (hh_I σ 7) ≤ x7 → (wp_X9_labelsOf x7 σ (fun (r2 : Int32) (σ3 : hh_S) => ((¬ r2 = x2 → (((0 : Int32) = 0 → (∀ v6 : Int64, v6 = (x5 + (0 : Int64)) → (K16 v6 (x7 + (1 : Int32)) σ3))) ∧ (¬ (0 : Int32) = 0 → (vp_in (((4 : Int32) * x7) + x3) 96 ∧ (∀ v8 : Int64, v8 = (x5 + ((hh_rA σ3 17 (((4 : Int32) * x7) + x3)).toInt64)) → (K16 v8 (x7 + (1 : Int32)) σ3)))))) ∧ (r2 = x2 → (wp_X9_counts x1 x7 σ3 (fun (r9 : Int32) (σ10 : hh_S) => ((r9 = 0 → (((0 : Int32) = 0 → (∀ v13 : Int64, v13 = (x5 + (0 : Int64)) → (K16 v13 (x7 + (1 : Int32)) σ10))) ∧ (¬ (0 : Int32) = 0 → (vp_in (((4 : Int32) * x7) + x3) 96 ∧ (∀ v15 : Int64, v15 = (x5 + ((hh_rA σ10 17 (((4 : Int32) * x7) + x3)).toInt64)) → (K16 v15 (x7 + (1 : Int32)) σ10)))))) ∧ (¬ r9 = 0 → (vp_in (((24 : Int32) * x1) + x7) 240 ∧ ((¬ (hh_rA σ10 13 (((24 : Int32) * x1) + x7)) = (x4 + (1 : Int32)) → (((0 : Int32) = 0 → (∀ v19 : Int64, v19 = (x5 + (0 : Int64)) → (K16 v19 (x7 + (1 : Int32)) σ10))) ∧ (¬ (0 : Int32) = 0 → (vp_in (((4 : Int32) * x7) + x3) 96 ∧ (∀ v21 : Int64, v21 = (x5 + ((hh_rA σ10 17 (((4 : Int32) * x7) + x3)).toInt64)) → (K16 v21 (x7 + (1 : Int32)) σ10)))))) ∧ ((hh_rA σ10 13 (((24 : Int32) * x1) + x7)) = (x4 + (1 : Int32)) → (((1 : Int32) = 0 → (∀ v23 : Int64, v23 = (x5 + (0 : Int64)) → (K16 v23 (x7 + (1 : Int32)) σ10))) ∧ (¬ (1 : Int32) = 0 → (vp_in (((4 : Int32) * x7) + x3) 96 ∧ (∀ v25 : Int64, v25 = (x5 + ((hh_rA σ10 17 (((4 : Int32) * x7) + x3)).toInt64)) → (K16 v25 (x7 + (1 : Int32)) σ10))))))))))))))))))
def wp_X9_saidBy (x1 : Int32) (x2 : Int32) (x3 : Int32) (x4 : Int32) (σ : hh_S) (Q : Int64 → hh_S → Prop) : Prop := (∀ v26 : Int64, v26 = ((10000 : Int64) * ((hh_rA σ 14 (0 : Int32)).toInt64)) → (∃ n : Nat, hh_lp2 (wq_X9_saidBy_16 x1 x2 x3 x4 Q) n v26 (0 : Int32) σ))
theorem in_X9_saidBy_X9 : ∀ w ∈ u_ws RX9 TX9 37, w ∈ wsX9_saidBy := fun w h => List.mem_cons_of_mem _ (List.mem_append_right _ h)
set_option maxHeartbeats 4000000 in
set_option maxRecDepth 100000 in
theorem ad_X9_saidBy {D : va_G} (l : Launch) {cy : Nat → ClassId} {ad : Nat → Nat} (J : hh_J hm_Y ad) (x1 : Int32) (x2 : Int32) (x3 : Int32) (x4 : Int32) (σ : hh_S) (Q : Int64 → hh_S → Prop) (hq : wp_X9_saidBy x1 x2 x3 x4 σ Q) : Met l yX9_saidBy wsX9_saidBy rm_X9_saidBy (va_Pc [.ref (ad 0), .int x1, .int x2, .int x3, .int x4] (hh_B D hh_cl hm_Y cy ad σ)) (va_Ql Q (hh_B D hh_cl hm_Y cy ad) (hh_A hm_Y ad)) 0 0 (hh_A hm_Y ad) := by
  refine Met.ofW (cc := cX9_saidBy) (maxL := 9) (ret := (some .long)) (by decide) rfl ?_
  intro p e s m args below meth c s₁ B hml hv
  obtain ⟨hargs, hP0, hK0⟩ := hv
  have hr := B.returns
  have hlocks := B.notSynchronized
  have X : hh_X p m c cX9_saidBy 9 s args wsX9_saidBy RX9 D hh_cl hm_Y cy ad := ⟨⟨B.exec, B.bytes, hml, findClass_of_methodNamed B.named, atoms_spec (ws := wsX9_saidBy) B.pre⟩, hK0, J⟩
  have hx := X.1.1
  have hb1 := X.1.2.1
  have h : hh_H D hh_cl hm_Y cy ad s.heap σ s.heap [] := ⟨hP0, va_S.rf⟩
  have lt_16 : ∀ (x1 : Int32) (x2 : Int32) (x3 : Int32) (x4 : Int32) (n : Nat) (x5 : Int64) (x7 : Int32) (σ : hh_S) (H : Heap) (locs : List Loc) (ls : Array Slot), hh_lp2 (wq_X9_saidBy_16 x1 x2 x3 x4 Q) n x5 x7 σ → hh_H D hh_cl hm_Y cy ad s.heap σ H locs → lv_has ls 9 [(0, .ref (ad 0)), (1, .int x1), (2, .int x2), (3, .int x3), (4, .int x4), (5, .long x5), (7, .int x7)] → W p l e (headSpec wsX9_saidBy rm_X9_saidBy).room s m args below meth c H locs 0 0 (MQ below (va_Ql Q (hh_B D hh_cl hm_Y cy ad) (hh_A hm_Y ad)) args s 0 0 (hh_A hm_Y ad)) (F0 m 16 ls []) := by
    intro x1 x2 x3 x4 n
    induction n with
    | zero => intro x5 x7 σ H locs ls hq h hl; exact hq.elim
    | succ n ih =>
      intro x5 x7 σ H locs ls hq h hl
      have hq : wq_X9_saidBy_16 x1 x2 x3 x4 Q (hh_lp2 (wq_X9_saidBy_16 x1 x2 x3 x4 Q) n) x5 x7 σ := hq
      unfold wq_X9_saidBy_16 at hq
      refine lv_iload hx hb1 dX9_saidBy_16 (lv_at hl 6 rfl) ?_
      refine lv_aload_n hx hb1 dX9_saidBy_18 rfl (lv_at hl 0 rfl) ?_
      refine hh_geti X h (q := 7) fm_0_7 rfl in_X9_saidBy_X9 km_0 (by decide) (List.mem_of_getElem? (i := 3) rfl) rfl dX9_saidBy_19 ?_
      refine lv_icmp_ge (tgt := 103) hx hb1 dX9_saidBy_22 (by decide) (fun c1 => ?_) (fun c1 => ?_)
      · have hq := hq.1 c1
        refine lv_lload hx hb1 dX9_saidBy_103 (lv_at hl 5 rfl) ?_
        exact hh_lret X h hr hlocks hq dX9_saidBy_105
      · have hq := hq.2 c1
        refine lv_aload_n hx hb1 dX9_saidBy_25 rfl (lv_at hl 0 rfl) ?_
        refine lv_iload hx hb1 dX9_saidBy_26 (lv_at hl 6 rfl) ?_
        refine hh_kI h (va_runV (As := [.int x7]) (rest := []) X.1 (ad_X9_labelsOf (D := D) l J x7 σ _ hq) (cwV 1 X.1.2.2.2.2 gX9_saidBy_X9_labelsOf rfl rfl rfl nd_X9_labelsOf ⟨Nat.le_of_ble_eq_true rfl, Nat.le_of_ble_eq_true rfl⟩) (hh_preV X h fm_0_0 km_0 [.int x7]) rfl rfl hl.1 rfl (lv_room (Nat.le_of_ble_eq_true rfl)) dX9_saidBy_28 ⟨Nat.le_of_ble_eq_true rfl, Nat.le_of_ble_eq_true rfl⟩) (fun r2 σ3 H locs hq h => ?_)
        refine lv_iload_n hx hb1 dX9_saidBy_31 rfl (lv_at hl 2 rfl) ?_
        refine lv_icmp_ne (tgt := 68) hx hb1 dX9_saidBy_32 (by decide) (fun c4 => ?_) (fun c4 => ?_)
        · have hq := hq.1 c4
          refine lv_iconst (v := (0 : Int32)) hx hb1 dX9_saidBy_68 (by decide) ?_
          refine lv_istore (lv' := [(8, .int (0 : Int32)), (0, .ref (ad 0)), (1, .int x1), (2, .int x2), (3, .int x3), (4, .int x4), (5, .long x5), (7, .int x7)]) hx hb1 dX9_saidBy_69 hl (by decide) rfl (fun ls hl => ?_)
          refine lv_lload hx hb1 dX9_saidBy_71 (lv_at hl 6 rfl) ?_
          refine lv_iload hx hb1 dX9_saidBy_73 (lv_at hl 0 rfl) ?_
          refine lv_if_eq (tgt := 93) hx hb1 dX9_saidBy_75 (by decide) (fun c5 => ?_) (fun c5 => ?_)
          · have hq := hq.1 c5
            refine lv_lconst (v := (0 : Int64)) hx hb1 dX9_saidBy_93 (by decide) ?_
            refine lv_ladd hx hb1 dX9_saidBy_94 ?_
            refine lv_topl (fun v6 ev6 => ?_)
            have hq := hq v6 ev6
            refine lv_lstore (lv' := [(5, .long v6), (8, .int (0 : Int32)), (0, .ref (ad 0)), (1, .int x1), (2, .int x2), (3, .int x3), (4, .int x4), (7, .int x7)]) hx hb1 dX9_saidBy_95 hl (by decide) rfl (fun ls hl => ?_)
            refine lv_iinc (v := (x7 + (1 : Int32))) (lv' := [(7, .int (x7 + (1 : Int32))), (5, .long v6), (8, .int (0 : Int32)), (0, .ref (ad 0)), (1, .int x1), (2, .int x2), (3, .int x3), (4, .int x4)]) hx hb1 dX9_saidBy_97 hl (k := 7) rfl rfl (by decide) rfl (fun ls hl => ?_)
            refine lv_goto (tgt := 16) hx hb1 dX9_saidBy_100 (by decide) ?_
            exact ih v6 (x7 + (1 : Int32)) σ3 _ _ ls hq h (lv_sub hl [3, 4, 5, 6, 7, 1, 0] rfl)
          · have hq := hq.2 c5
            refine lv_aload_n hx hb1 dX9_saidBy_78 rfl (lv_at hl 1 rfl) ?_
            refine hh_getr X h fm_0_23 in_X9_saidBy_X9 km_0 (by decide) (List.mem_of_getElem? (i := 5) rfl) rfl dX9_saidBy_79 ?_
            refine lv_iconst (v := (4 : Int32)) hx hb1 dX9_saidBy_82 (by decide) ?_
            refine lv_iload hx hb1 dX9_saidBy_83 (lv_at hl 7 rfl) ?_
            refine lv_imul hx hb1 dX9_saidBy_85 ?_
            refine lv_iload_n hx hb1 dX9_saidBy_86 rfl (lv_at hl 4 rfl) ?_
            refine lv_iadd hx hb1 dX9_saidBy_87 ?_
            obtain ⟨h7, hq⟩ := hq
            refine hh_ild X h am_17 h7 dX9_saidBy_88 ?_
            refine lv_i2l (v := ((hh_rA σ3 17 (((4 : Int32) * x7) + x3))).toInt64) hx hb1 dX9_saidBy_89 rfl ?_
            refine lv_goto (tgt := 94) hx hb1 dX9_saidBy_90 (by decide) ?_
            refine lv_ladd hx hb1 dX9_saidBy_94 ?_
            refine lv_topl (fun v8 ev8 => ?_)
            have hq := hq v8 ev8
            refine lv_lstore (lv' := [(5, .long v8), (8, .int (0 : Int32)), (0, .ref (ad 0)), (1, .int x1), (2, .int x2), (3, .int x3), (4, .int x4), (7, .int x7)]) hx hb1 dX9_saidBy_95 hl (by decide) rfl (fun ls hl => ?_)
            refine lv_iinc (v := (x7 + (1 : Int32))) (lv' := [(7, .int (x7 + (1 : Int32))), (5, .long v8), (8, .int (0 : Int32)), (0, .ref (ad 0)), (1, .int x1), (2, .int x2), (3, .int x3), (4, .int x4)]) hx hb1 dX9_saidBy_97 hl (k := 7) rfl rfl (by decide) rfl (fun ls hl => ?_)
            refine lv_goto (tgt := 16) hx hb1 dX9_saidBy_100 (by decide) ?_
            exact ih v8 (x7 + (1 : Int32)) σ3 _ _ ls hq h (lv_sub hl [3, 4, 5, 6, 7, 1, 0] rfl)
        · have hq := hq.2 c4
          refine lv_aload_n hx hb1 dX9_saidBy_35 rfl (lv_at hl 0 rfl) ?_
          refine lv_iload_n hx hb1 dX9_saidBy_36 rfl (lv_at hl 1 rfl) ?_
          refine lv_iload hx hb1 dX9_saidBy_37 (lv_at hl 6 rfl) ?_
          refine hh_kI h (va_runV (As := [.int x1, .int x7]) (rest := []) X.1 (ad_X9_counts (D := D) l J x1 x7 σ3 _ hq) (cwV 2 X.1.2.2.2.2 gX9_saidBy_X9_counts rfl rfl rfl nd_X9_counts ⟨Nat.le_of_ble_eq_true rfl, Nat.le_of_ble_eq_true rfl⟩) (hh_preV X h fm_0_0 km_0 [.int x1, .int x7]) rfl rfl hl.1 rfl (lv_room (Nat.le_of_ble_eq_true rfl)) dX9_saidBy_39 ⟨Nat.le_of_ble_eq_true rfl, Nat.le_of_ble_eq_true rfl⟩) (fun r9 σ10 H locs hq h => ?_)
          refine lv_if_eq (tgt := 68) hx hb1 dX9_saidBy_42 (by decide) (fun c11 => ?_) (fun c11 => ?_)
          · have hq := hq.1 c11
            refine lv_iconst (v := (0 : Int32)) hx hb1 dX9_saidBy_68 (by decide) ?_
            refine lv_istore (lv' := [(8, .int (0 : Int32)), (0, .ref (ad 0)), (1, .int x1), (2, .int x2), (3, .int x3), (4, .int x4), (5, .long x5), (7, .int x7)]) hx hb1 dX9_saidBy_69 hl (by decide) rfl (fun ls hl => ?_)
            refine lv_lload hx hb1 dX9_saidBy_71 (lv_at hl 6 rfl) ?_
            refine lv_iload hx hb1 dX9_saidBy_73 (lv_at hl 0 rfl) ?_
            refine lv_if_eq (tgt := 93) hx hb1 dX9_saidBy_75 (by decide) (fun c12 => ?_) (fun c12 => ?_)
            · have hq := hq.1 c12
              refine lv_lconst (v := (0 : Int64)) hx hb1 dX9_saidBy_93 (by decide) ?_
              refine lv_ladd hx hb1 dX9_saidBy_94 ?_
              refine lv_topl (fun v13 ev13 => ?_)
              have hq := hq v13 ev13
              refine lv_lstore (lv' := [(5, .long v13), (8, .int (0 : Int32)), (0, .ref (ad 0)), (1, .int x1), (2, .int x2), (3, .int x3), (4, .int x4), (7, .int x7)]) hx hb1 dX9_saidBy_95 hl (by decide) rfl (fun ls hl => ?_)
              refine lv_iinc (v := (x7 + (1 : Int32))) (lv' := [(7, .int (x7 + (1 : Int32))), (5, .long v13), (8, .int (0 : Int32)), (0, .ref (ad 0)), (1, .int x1), (2, .int x2), (3, .int x3), (4, .int x4)]) hx hb1 dX9_saidBy_97 hl (k := 7) rfl rfl (by decide) rfl (fun ls hl => ?_)
              refine lv_goto (tgt := 16) hx hb1 dX9_saidBy_100 (by decide) ?_
              exact ih v13 (x7 + (1 : Int32)) σ10 _ _ ls hq h (lv_sub hl [3, 4, 5, 6, 7, 1, 0] rfl)
            · have hq := hq.2 c12
              refine lv_aload_n hx hb1 dX9_saidBy_78 rfl (lv_at hl 1 rfl) ?_
              refine hh_getr X h fm_0_23 in_X9_saidBy_X9 km_0 (by decide) (List.mem_of_getElem? (i := 5) rfl) rfl dX9_saidBy_79 ?_
              refine lv_iconst (v := (4 : Int32)) hx hb1 dX9_saidBy_82 (by decide) ?_
              refine lv_iload hx hb1 dX9_saidBy_83 (lv_at hl 7 rfl) ?_
              refine lv_imul hx hb1 dX9_saidBy_85 ?_
              refine lv_iload_n hx hb1 dX9_saidBy_86 rfl (lv_at hl 4 rfl) ?_
              refine lv_iadd hx hb1 dX9_saidBy_87 ?_
              obtain ⟨h14, hq⟩ := hq
              refine hh_ild X h am_17 h14 dX9_saidBy_88 ?_
              refine lv_i2l (v := ((hh_rA σ10 17 (((4 : Int32) * x7) + x3))).toInt64) hx hb1 dX9_saidBy_89 rfl ?_
              refine lv_goto (tgt := 94) hx hb1 dX9_saidBy_90 (by decide) ?_
              refine lv_ladd hx hb1 dX9_saidBy_94 ?_
              refine lv_topl (fun v15 ev15 => ?_)
              have hq := hq v15 ev15
              refine lv_lstore (lv' := [(5, .long v15), (8, .int (0 : Int32)), (0, .ref (ad 0)), (1, .int x1), (2, .int x2), (3, .int x3), (4, .int x4), (7, .int x7)]) hx hb1 dX9_saidBy_95 hl (by decide) rfl (fun ls hl => ?_)
              refine lv_iinc (v := (x7 + (1 : Int32))) (lv' := [(7, .int (x7 + (1 : Int32))), (5, .long v15), (8, .int (0 : Int32)), (0, .ref (ad 0)), (1, .int x1), (2, .int x2), (3, .int x3), (4, .int x4)]) hx hb1 dX9_saidBy_97 hl (k := 7) rfl rfl (by decide) rfl (fun ls hl => ?_)
              refine lv_goto (tgt := 16) hx hb1 dX9_saidBy_100 (by decide) ?_
              exact ih v15 (x7 + (1 : Int32)) σ10 _ _ ls hq h (lv_sub hl [3, 4, 5, 6, 7, 1, 0] rfl)
          · have hq := hq.2 c11
            refine lv_aload_n hx hb1 dX9_saidBy_45 rfl (lv_at hl 0 rfl) ?_
            refine hh_getr X h fm_0_16 in_X9_saidBy_X9 km_0 (by decide) (List.mem_of_getElem? (i := 4) rfl) rfl dX9_saidBy_46 ?_
            refine lv_bipush (v := (24 : Int32)) hx hb1 dX9_saidBy_49 (by decide) ?_
            refine lv_iload_n hx hb1 dX9_saidBy_51 rfl (lv_at hl 1 rfl) ?_
            refine lv_imul hx hb1 dX9_saidBy_52 ?_
            refine lv_iload hx hb1 dX9_saidBy_53 (lv_at hl 6 rfl) ?_
            refine lv_iadd hx hb1 dX9_saidBy_55 ?_
            obtain ⟨h16, hq⟩ := hq
            refine hh_ild X h am_13 h16 dX9_saidBy_56 ?_
            refine lv_iload hx hb1 dX9_saidBy_57 (lv_at hl 4 rfl) ?_
            refine lv_iconst (v := (1 : Int32)) hx hb1 dX9_saidBy_59 (by decide) ?_
            refine lv_iadd hx hb1 dX9_saidBy_60 ?_
            refine lv_icmp_ne (tgt := 68) hx hb1 dX9_saidBy_61 (by decide) (fun c17 => ?_) (fun c17 => ?_)
            · have hq := hq.1 c17
              refine lv_iconst (v := (0 : Int32)) hx hb1 dX9_saidBy_68 (by decide) ?_
              refine lv_istore (lv' := [(8, .int (0 : Int32)), (0, .ref (ad 0)), (1, .int x1), (2, .int x2), (3, .int x3), (4, .int x4), (5, .long x5), (7, .int x7)]) hx hb1 dX9_saidBy_69 hl (by decide) rfl (fun ls hl => ?_)
              refine lv_lload hx hb1 dX9_saidBy_71 (lv_at hl 6 rfl) ?_
              refine lv_iload hx hb1 dX9_saidBy_73 (lv_at hl 0 rfl) ?_
              refine lv_if_eq (tgt := 93) hx hb1 dX9_saidBy_75 (by decide) (fun c18 => ?_) (fun c18 => ?_)
              · have hq := hq.1 c18
                refine lv_lconst (v := (0 : Int64)) hx hb1 dX9_saidBy_93 (by decide) ?_
                refine lv_ladd hx hb1 dX9_saidBy_94 ?_
                refine lv_topl (fun v19 ev19 => ?_)
                have hq := hq v19 ev19
                refine lv_lstore (lv' := [(5, .long v19), (8, .int (0 : Int32)), (0, .ref (ad 0)), (1, .int x1), (2, .int x2), (3, .int x3), (4, .int x4), (7, .int x7)]) hx hb1 dX9_saidBy_95 hl (by decide) rfl (fun ls hl => ?_)
                refine lv_iinc (v := (x7 + (1 : Int32))) (lv' := [(7, .int (x7 + (1 : Int32))), (5, .long v19), (8, .int (0 : Int32)), (0, .ref (ad 0)), (1, .int x1), (2, .int x2), (3, .int x3), (4, .int x4)]) hx hb1 dX9_saidBy_97 hl (k := 7) rfl rfl (by decide) rfl (fun ls hl => ?_)
                refine lv_goto (tgt := 16) hx hb1 dX9_saidBy_100 (by decide) ?_
                exact ih v19 (x7 + (1 : Int32)) σ10 _ _ ls hq h (lv_sub hl [3, 4, 5, 6, 7, 1, 0] rfl)
              · have hq := hq.2 c18
                refine lv_aload_n hx hb1 dX9_saidBy_78 rfl (lv_at hl 1 rfl) ?_
                refine hh_getr X h fm_0_23 in_X9_saidBy_X9 km_0 (by decide) (List.mem_of_getElem? (i := 5) rfl) rfl dX9_saidBy_79 ?_
                refine lv_iconst (v := (4 : Int32)) hx hb1 dX9_saidBy_82 (by decide) ?_
                refine lv_iload hx hb1 dX9_saidBy_83 (lv_at hl 7 rfl) ?_
                refine lv_imul hx hb1 dX9_saidBy_85 ?_
                refine lv_iload_n hx hb1 dX9_saidBy_86 rfl (lv_at hl 4 rfl) ?_
                refine lv_iadd hx hb1 dX9_saidBy_87 ?_
                obtain ⟨h20, hq⟩ := hq
                refine hh_ild X h am_17 h20 dX9_saidBy_88 ?_
                refine lv_i2l (v := ((hh_rA σ10 17 (((4 : Int32) * x7) + x3))).toInt64) hx hb1 dX9_saidBy_89 rfl ?_
                refine lv_goto (tgt := 94) hx hb1 dX9_saidBy_90 (by decide) ?_
                refine lv_ladd hx hb1 dX9_saidBy_94 ?_
                refine lv_topl (fun v21 ev21 => ?_)
                have hq := hq v21 ev21
                refine lv_lstore (lv' := [(5, .long v21), (8, .int (0 : Int32)), (0, .ref (ad 0)), (1, .int x1), (2, .int x2), (3, .int x3), (4, .int x4), (7, .int x7)]) hx hb1 dX9_saidBy_95 hl (by decide) rfl (fun ls hl => ?_)
                refine lv_iinc (v := (x7 + (1 : Int32))) (lv' := [(7, .int (x7 + (1 : Int32))), (5, .long v21), (8, .int (0 : Int32)), (0, .ref (ad 0)), (1, .int x1), (2, .int x2), (3, .int x3), (4, .int x4)]) hx hb1 dX9_saidBy_97 hl (k := 7) rfl rfl (by decide) rfl (fun ls hl => ?_)
                refine lv_goto (tgt := 16) hx hb1 dX9_saidBy_100 (by decide) ?_
                exact ih v21 (x7 + (1 : Int32)) σ10 _ _ ls hq h (lv_sub hl [3, 4, 5, 6, 7, 1, 0] rfl)
            · have hq := hq.2 c17
              refine lv_iconst (v := (1 : Int32)) hx hb1 dX9_saidBy_64 (by decide) ?_
              refine lv_goto (tgt := 69) hx hb1 dX9_saidBy_65 (by decide) ?_
              refine lv_istore (lv' := [(8, .int (1 : Int32)), (0, .ref (ad 0)), (1, .int x1), (2, .int x2), (3, .int x3), (4, .int x4), (5, .long x5), (7, .int x7)]) hx hb1 dX9_saidBy_69 hl (by decide) rfl (fun ls hl => ?_)
              refine lv_lload hx hb1 dX9_saidBy_71 (lv_at hl 6 rfl) ?_
              refine lv_iload hx hb1 dX9_saidBy_73 (lv_at hl 0 rfl) ?_
              refine lv_if_eq (tgt := 93) hx hb1 dX9_saidBy_75 (by decide) (fun c22 => ?_) (fun c22 => ?_)
              · have hq := hq.1 c22
                refine lv_lconst (v := (0 : Int64)) hx hb1 dX9_saidBy_93 (by decide) ?_
                refine lv_ladd hx hb1 dX9_saidBy_94 ?_
                refine lv_topl (fun v23 ev23 => ?_)
                have hq := hq v23 ev23
                refine lv_lstore (lv' := [(5, .long v23), (8, .int (1 : Int32)), (0, .ref (ad 0)), (1, .int x1), (2, .int x2), (3, .int x3), (4, .int x4), (7, .int x7)]) hx hb1 dX9_saidBy_95 hl (by decide) rfl (fun ls hl => ?_)
                refine lv_iinc (v := (x7 + (1 : Int32))) (lv' := [(7, .int (x7 + (1 : Int32))), (5, .long v23), (8, .int (1 : Int32)), (0, .ref (ad 0)), (1, .int x1), (2, .int x2), (3, .int x3), (4, .int x4)]) hx hb1 dX9_saidBy_97 hl (k := 7) rfl rfl (by decide) rfl (fun ls hl => ?_)
                refine lv_goto (tgt := 16) hx hb1 dX9_saidBy_100 (by decide) ?_
                exact ih v23 (x7 + (1 : Int32)) σ10 _ _ ls hq h (lv_sub hl [3, 4, 5, 6, 7, 1, 0] rfl)
              · have hq := hq.2 c22
                refine lv_aload_n hx hb1 dX9_saidBy_78 rfl (lv_at hl 1 rfl) ?_
                refine hh_getr X h fm_0_23 in_X9_saidBy_X9 km_0 (by decide) (List.mem_of_getElem? (i := 5) rfl) rfl dX9_saidBy_79 ?_
                refine lv_iconst (v := (4 : Int32)) hx hb1 dX9_saidBy_82 (by decide) ?_
                refine lv_iload hx hb1 dX9_saidBy_83 (lv_at hl 7 rfl) ?_
                refine lv_imul hx hb1 dX9_saidBy_85 ?_
                refine lv_iload_n hx hb1 dX9_saidBy_86 rfl (lv_at hl 4 rfl) ?_
                refine lv_iadd hx hb1 dX9_saidBy_87 ?_
                obtain ⟨h24, hq⟩ := hq
                refine hh_ild X h am_17 h24 dX9_saidBy_88 ?_
                refine lv_i2l (v := ((hh_rA σ10 17 (((4 : Int32) * x7) + x3))).toInt64) hx hb1 dX9_saidBy_89 rfl ?_
                refine lv_goto (tgt := 94) hx hb1 dX9_saidBy_90 (by decide) ?_
                refine lv_ladd hx hb1 dX9_saidBy_94 ?_
                refine lv_topl (fun v25 ev25 => ?_)
                have hq := hq v25 ev25
                refine lv_lstore (lv' := [(5, .long v25), (8, .int (1 : Int32)), (0, .ref (ad 0)), (1, .int x1), (2, .int x2), (3, .int x3), (4, .int x4), (7, .int x7)]) hx hb1 dX9_saidBy_95 hl (by decide) rfl (fun ls hl => ?_)
                refine lv_iinc (v := (x7 + (1 : Int32))) (lv' := [(7, .int (x7 + (1 : Int32))), (5, .long v25), (8, .int (1 : Int32)), (0, .ref (ad 0)), (1, .int x1), (2, .int x2), (3, .int x3), (4, .int x4)]) hx hb1 dX9_saidBy_97 hl (k := 7) rfl rfl (by decide) rfl (fun ls hl => ?_)
                refine lv_goto (tgt := 16) hx hb1 dX9_saidBy_100 (by decide) ?_
                exact ih v25 (x7 + (1 : Int32)) σ10 _ _ ls hq h (lv_sub hl [3, 4, 5, 6, 7, 1, 0] rfl)
  subst hargs
  refine hh_entry (vs := [.ref (ad 0), .int x1, .int x2, .int x3, .int x4]) (Nat.le_of_ble_eq_true rfl) (fun ls hl => ?_)
  have hl : lv_has ls 9 [(0, .ref (ad 0)), (1, .int x1), (2, .int x2), (3, .int x3), (4, .int x4)] := hl
  have hq : wp_X9_saidBy x1 x2 x3 x4 σ Q := hq
  unfold wp_X9_saidBy at hq
  refine lv_ldc2 (v := (10000 : Int64)) hx hb1 X.1.2.2.2.1 (X.1.2.2.2.2 _ (List.mem_of_getElem? (i := 1) rfl)) dX9_saidBy_0 ?_
  refine lv_aload_n hx hb1 dX9_saidBy_3 rfl (lv_at hl 0 rfl) ?_
  refine hh_getr X h fm_0_17 in_X9_saidBy_X9 km_0 (by decide) (List.mem_of_getElem? (i := 2) rfl) rfl dX9_saidBy_4 ?_
  refine lv_iconst (v := (0 : Int32)) hx hb1 dX9_saidBy_7 (by decide) ?_
  refine hh_ild X h am_14 (vp_in_iff.mpr (by decide)) dX9_saidBy_8 ?_
  refine lv_i2l (v := ((hh_rA σ 14 (0 : Int32))).toInt64) hx hb1 dX9_saidBy_9 rfl ?_
  refine lv_lmul hx hb1 dX9_saidBy_10 ?_
  refine lv_topl (fun v26 ev26 => ?_)
  have hq := hq v26 ev26
  refine lv_lstore (lv' := [(5, .long v26), (0, .ref (ad 0)), (1, .int x1), (2, .int x2), (3, .int x3), (4, .int x4)]) hx hb1 dX9_saidBy_11 hl (by decide) rfl (fun ls hl => ?_)
  refine lv_iconst (v := (0 : Int32)) hx hb1 dX9_saidBy_13 (by decide) ?_
  refine lv_istore (lv' := [(7, .int (0 : Int32)), (5, .long v26), (0, .ref (ad 0)), (1, .int x1), (2, .int x2), (3, .int x3), (4, .int x4)]) hx hb1 dX9_saidBy_14 hl (by decide) rfl (fun ls hl => ?_)
  obtain ⟨n27, hq⟩ := hq
  exact lt_16 x1 x2 x3 x4 n27 v26 (0 : Int32) σ _ _ ls hq h (lv_sub hl [2, 3, 4, 5, 6, 1, 0] rfl)
theorem nd_X9_layTables : yX9_layTables.cls = RX9 ∧ yX9_layTables.cls ≠ "java/lang/invoke/MethodHandle" ∧ yX9_layTables.cls ≠ "java/lang/invoke/VarHandle" ∧ (parseMethodDescriptor yX9_layTables.desc).map (fun d => d.parameters.length) = some 0 := by decide +kernel
abbrev rm_X9_layTables : Room := { frames := 2, cells := 0, slots := 0, locals := 50 }
def wq_X9_layTables_59 (K2 : Int32 → hh_S → Prop) (K12 : Int32 → hh_S → Prop) (K19 : Int32 → hh_S → Prop) (x1 : Int32) (x2 : Int32) (x3 : Int32) (x4 : Int64) (Q : hh_S → Prop) (K59 : Int32 → hh_S → Prop) (x6 : Int32) (σ : hh_S) : Prop := ((x2 ≤ x6 → (K19 (x3 + (1 : Int32)) σ)) ∧ (¬ x2 ≤ x6 → (wp_X9_at x1 x2 x3 x6 σ (fun (r2 : Int32) (σ3 : hh_S) => (wp_X9_saidBy x1 x2 x3 x6 σ3 (fun (r4 : Int64) (σ5 : hh_S) => ((¬ x4 = 0) ∧ (vp_in r2 480 ∧ ∀ σ8 : hh_S, σ8 = hh_sA σ5 18 r2 ((((1000 : Int64) * r4) / x4).toInt32) → (K59 (x6 + (1 : Int32)) σ8)))))))))
def wq_X9_layTables_30 (K2 : Int32 → hh_S → Prop) (K12 : Int32 → hh_S → Prop) (K19 : Int32 → hh_S → Prop) (x1 : Int32) (x2 : Int32) (x3 : Int32) (Q : hh_S → Prop) (K30 : Int64 → Int32 → hh_S → Prop) (x4 : Int64) (x6 : Int32) (σ : hh_S) : Prop := ((x2 ≤ x6 → (∃ n : Nat, hh_lp1 (wq_X9_layTables_59 K2 K12 K19 x1 x2 x3 x4 Q) n (0 : Int32) σ)) ∧ (¬ x2 ≤ x6 → (wp_X9_saidBy x1 x2 x3 x6 σ (fun (r11 : Int64) (σ12 : hh_S) => (∀ v13 : Int64, v13 = (x4 + r11) → (K30 v13 (x6 + (1 : Int32)) σ12))))))
def wq_X9_layTables_19 (K2 : Int32 → hh_S → Prop) (K12 : Int32 → hh_S → Prop) (x1 : Int32) (x2 : Int32) (Q : hh_S → Prop) (K19 : Int32 → hh_S → Prop) (x3 : Int32) (σ : hh_S) : Prop := ((x2 ≤ x3 → (K12 (x2 + (1 : Int32)) σ)) ∧ (¬ x2 ≤ x3 → (∃ n : Nat, hh_lp2 (wq_X9_layTables_30 K2 K12 K19 x1 x2 x3 Q) n (0 : Int64) (0 : Int32) σ)))
def wq_X9_layTables_12 (K2 : Int32 → hh_S → Prop) (x1 : Int32) (Q : hh_S → Prop) (K12 : Int32 → hh_S → Prop) (x2 : Int32) (σ : hh_S) : Prop := (((4 : Int32) < x2 → (K2 (x1 + (1 : Int32)) σ)) ∧ (¬ (4 : Int32) < x2 → (∃ n : Nat, hh_lp1 (wq_X9_layTables_19 K2 K12 x1 x2 Q) n (0 : Int32) σ)))
def wq_X9_layTables_2 (Q : hh_S → Prop) (K2 : Int32 → hh_S → Prop) (x1 : Int32) (σ : hh_S) : Prop := (((hh_I σ 13) ≤ x1 → (Q σ)) ∧ (¬ (hh_I σ 13) ≤ x1 → (∃ n : Nat, hh_lp1 (wq_X9_layTables_12 K2 x1 Q) n (2 : Int32) σ)))
def wp_X9_layTables (σ : hh_S) (Q : hh_S → Prop) : Prop := (∃ n : Nat, hh_lp1 (wq_X9_layTables_2 Q) n (0 : Int32) σ)
theorem in_X9_layTables_X9 : ∀ w ∈ u_ws RX9 TX9 37, w ∈ wsX9_layTables := fun w h => List.mem_cons_of_mem _ (List.mem_append_right _ h)
set_option maxHeartbeats 4000000 in
set_option maxRecDepth 100000 in
theorem ad_X9_layTables {D : va_G} (l : Launch) {cy : Nat → ClassId} {ad : Nat → Nat} (J : hh_J hm_Y ad) (σ : hh_S) (Q : hh_S → Prop) (hq : wp_X9_layTables σ Q) : Met l yX9_layTables wsX9_layTables rm_X9_layTables (va_Pc [.ref (ad 0)] (hh_B D hh_cl hm_Y cy ad σ)) (va_Qv Q (hh_B D hh_cl hm_Y cy ad) (hh_A hm_Y ad)) 0 0 (hh_A hm_Y ad) := by
  refine Met.ofW (cc := cX9_layTables) (maxL := 7) (ret := none) (by decide) rfl ?_
  intro p e s m args below meth c s₁ B hml hv
  obtain ⟨hargs, hP0, hK0⟩ := hv
  have hr := B.returns
  have hlocks := B.notSynchronized
  have X : hh_X p m c cX9_layTables 7 s args wsX9_layTables RX9 D hh_cl hm_Y cy ad := ⟨⟨B.exec, B.bytes, hml, findClass_of_methodNamed B.named, atoms_spec (ws := wsX9_layTables) B.pre⟩, hK0, J⟩
  have hx := X.1.1
  have hb1 := X.1.2.1
  have h : hh_H D hh_cl hm_Y cy ad s.heap σ s.heap [] := ⟨hP0, va_S.rf⟩
  have lt_59 : ∀ (x1 : Int32) (x2 : Int32) (x3 : Int32) (x4 : Int64) (K2 : Int32 → hh_S → Prop) (hK2 : ∀ (x1 : Int32) (σ : hh_S) (H : Heap) (locs : List Loc) (ls : Array Slot), K2 x1 σ → hh_H D hh_cl hm_Y cy ad s.heap σ H locs → lv_has ls 7 [(0, .ref (ad 0)), (1, .int x1)] → W p l e (headSpec wsX9_layTables rm_X9_layTables).room s m args below meth c H locs 0 0 (MQ below (va_Qv Q (hh_B D hh_cl hm_Y cy ad) (hh_A hm_Y ad)) args s 0 0 (hh_A hm_Y ad)) (F0 m 2 ls [])) (K12 : Int32 → hh_S → Prop) (hK12 : ∀ (x2 : Int32) (σ : hh_S) (H : Heap) (locs : List Loc) (ls : Array Slot), K12 x2 σ → hh_H D hh_cl hm_Y cy ad s.heap σ H locs → lv_has ls 7 [(0, .ref (ad 0)), (1, .int x1), (2, .int x2)] → W p l e (headSpec wsX9_layTables rm_X9_layTables).room s m args below meth c H locs 0 0 (MQ below (va_Qv Q (hh_B D hh_cl hm_Y cy ad) (hh_A hm_Y ad)) args s 0 0 (hh_A hm_Y ad)) (F0 m 12 ls [])) (K19 : Int32 → hh_S → Prop) (hK19 : ∀ (x3 : Int32) (σ : hh_S) (H : Heap) (locs : List Loc) (ls : Array Slot), K19 x3 σ → hh_H D hh_cl hm_Y cy ad s.heap σ H locs → lv_has ls 7 [(0, .ref (ad 0)), (1, .int x1), (2, .int x2), (3, .int x3)] → W p l e (headSpec wsX9_layTables rm_X9_layTables).room s m args below meth c H locs 0 0 (MQ below (va_Qv Q (hh_B D hh_cl hm_Y cy ad) (hh_A hm_Y ad)) args s 0 0 (hh_A hm_Y ad)) (F0 m 19 ls [])) (n : Nat) (x6 : Int32) (σ : hh_S) (H : Heap) (locs : List Loc) (ls : Array Slot), hh_lp1 (wq_X9_layTables_59 K2 K12 K19 x1 x2 x3 x4 Q) n x6 σ → hh_H D hh_cl hm_Y cy ad s.heap σ H locs → lv_has ls 7 [(0, .ref (ad 0)), (1, .int x1), (2, .int x2), (3, .int x3), (4, .long x4), (6, .int x6)] → W p l e (headSpec wsX9_layTables rm_X9_layTables).room s m args below meth c H locs 0 0 (MQ below (va_Qv Q (hh_B D hh_cl hm_Y cy ad) (hh_A hm_Y ad)) args s 0 0 (hh_A hm_Y ad)) (F0 m 59 ls []) := by
    intro x1 x2 x3 x4 K2 hK2 K12 hK12 K19 hK19 n
    induction n with
    | zero => intro x6 σ H locs ls hq h hl; exact hq.elim
    | succ n ih =>
      intro x6 σ H locs ls hq h hl
      have hq : wq_X9_layTables_59 K2 K12 K19 x1 x2 x3 x4 Q (hh_lp1 (wq_X9_layTables_59 K2 K12 K19 x1 x2 x3 x4 Q) n) x6 σ := hq
      unfold wq_X9_layTables_59 at hq
      refine lv_iload hx hb1 dX9_layTables_59 (lv_at hl 5 rfl) ?_
      refine lv_iload_n hx hb1 dX9_layTables_61 rfl (lv_at hl 2 rfl) ?_
      refine lv_icmp_ge (tgt := 101) hx hb1 dX9_layTables_62 (by decide) (fun c1 => ?_) (fun c1 => ?_)
      · have hq := hq.1 c1
        refine lv_iinc (v := (x3 + (1 : Int32))) (lv' := [(3, .int (x3 + (1 : Int32))), (0, .ref (ad 0)), (1, .int x1), (2, .int x2), (4, .long x4), (6, .int x6)]) hx hb1 dX9_layTables_101 hl (k := 3) rfl rfl (by decide) rfl (fun ls hl => ?_)
        refine lv_goto (tgt := 19) hx hb1 dX9_layTables_104 (by decide) ?_
        exact hK19 (x3 + (1 : Int32)) σ _ _ ls hq h (lv_sub hl [1, 2, 3, 0] rfl)
      · have hq := hq.2 c1
        refine lv_aload_n hx hb1 dX9_layTables_65 rfl (lv_at hl 0 rfl) ?_
        refine hh_getr X h fm_0_24 in_X9_layTables_X9 km_0 (by decide) (List.mem_of_getElem? (i := 2) rfl) rfl dX9_layTables_66 ?_
        refine lv_iload_n hx hb1 dX9_layTables_69 rfl (lv_at hl 1 rfl) ?_
        refine lv_iload_n hx hb1 dX9_layTables_70 rfl (lv_at hl 2 rfl) ?_
        refine lv_iload_n hx hb1 dX9_layTables_71 rfl (lv_at hl 3 rfl) ?_
        refine lv_iload hx hb1 dX9_layTables_72 (lv_at hl 5 rfl) ?_
        refine hh_kI h (va_runS (As := [.int x1, .int x2, .int x3, .int x6]) (rest := [.ref (ad 18)]) X.1 (ad_X9_at (D := D) l J x1 x2 x3 x6 σ _ hq) (va_cwS 4 X.1.2.2.2.2 gX9_layTables_X9_at rfl rfl rfl nd_X9_at ⟨Nat.le_of_ble_eq_true rfl, Nat.le_of_ble_eq_true rfl⟩) (hh_preS X h [.int x1, .int x2, .int x3, .int x6]) rfl rfl hl.1 rfl (lv_room (Nat.le_of_ble_eq_true rfl)) dX9_layTables_74 ⟨Nat.le_of_ble_eq_true rfl, Nat.le_of_ble_eq_true rfl⟩) (fun r2 σ3 H locs hq h => ?_)
        refine lv_ldc2 (v := (1000 : Int64)) hx hb1 X.1.2.2.2.1 (X.1.2.2.2.2 _ (List.mem_of_getElem? (i := 3) rfl)) dX9_layTables_77 ?_
        refine lv_aload_n hx hb1 dX9_layTables_80 rfl (lv_at hl 0 rfl) ?_
        refine lv_iload_n hx hb1 dX9_layTables_81 rfl (lv_at hl 1 rfl) ?_
        refine lv_iload_n hx hb1 dX9_layTables_82 rfl (lv_at hl 2 rfl) ?_
        refine lv_iload_n hx hb1 dX9_layTables_83 rfl (lv_at hl 3 rfl) ?_
        refine lv_iload hx hb1 dX9_layTables_84 (lv_at hl 5 rfl) ?_
        refine hh_kL h (va_runV (As := [.int x1, .int x2, .int x3, .int x6]) (rest := [.long (1000 : Int64), .int r2, .ref (ad 18)]) X.1 (ad_X9_saidBy (D := D) l J x1 x2 x3 x6 σ3 _ hq) (cwV 4 X.1.2.2.2.2 gX9_layTables_X9_saidBy rfl rfl rfl nd_X9_saidBy ⟨Nat.le_of_ble_eq_true rfl, Nat.le_of_ble_eq_true rfl⟩) (hh_preV X h fm_0_0 km_0 [.int x1, .int x2, .int x3, .int x6]) rfl rfl hl.1 rfl (lv_room (Nat.le_of_ble_eq_true rfl)) dX9_layTables_86 ⟨Nat.le_of_ble_eq_true rfl, Nat.le_of_ble_eq_true rfl⟩) (fun r4 σ5 H locs hq h => ?_)
        refine lv_lmul hx hb1 dX9_layTables_89 ?_
        refine lv_lload hx hb1 dX9_layTables_90 (lv_at hl 4 rfl) ?_
        obtain ⟨h6, hq⟩ := hq
        refine lv_ldiv hx hb1 dX9_layTables_92 h6 ?_
        refine lv_l2i (v := ((((1000 : Int64) * r4) / x4)).toInt32) hx hb1 dX9_layTables_93 rfl ?_
        obtain ⟨h7, hq⟩ := hq
        refine hh_ist X h am_18 h7 dX9_layTables_94 (fun σ8 H locs eσ8 h => ?_)
        have hq := hq σ8 eσ8
        refine lv_iinc (v := (x6 + (1 : Int32))) (lv' := [(6, .int (x6 + (1 : Int32))), (0, .ref (ad 0)), (1, .int x1), (2, .int x2), (3, .int x3), (4, .long x4)]) hx hb1 dX9_layTables_95 hl (k := 5) rfl rfl (by decide) rfl (fun ls hl => ?_)
        refine lv_goto (tgt := 59) hx hb1 dX9_layTables_98 (by decide) ?_
        exact ih (x6 + (1 : Int32)) σ8 _ _ ls hq h (lv_sub hl [1, 2, 3, 4, 5, 0] rfl)
  have lt_30 : ∀ (x1 : Int32) (x2 : Int32) (x3 : Int32) (K2 : Int32 → hh_S → Prop) (hK2 : ∀ (x1 : Int32) (σ : hh_S) (H : Heap) (locs : List Loc) (ls : Array Slot), K2 x1 σ → hh_H D hh_cl hm_Y cy ad s.heap σ H locs → lv_has ls 7 [(0, .ref (ad 0)), (1, .int x1)] → W p l e (headSpec wsX9_layTables rm_X9_layTables).room s m args below meth c H locs 0 0 (MQ below (va_Qv Q (hh_B D hh_cl hm_Y cy ad) (hh_A hm_Y ad)) args s 0 0 (hh_A hm_Y ad)) (F0 m 2 ls [])) (K12 : Int32 → hh_S → Prop) (hK12 : ∀ (x2 : Int32) (σ : hh_S) (H : Heap) (locs : List Loc) (ls : Array Slot), K12 x2 σ → hh_H D hh_cl hm_Y cy ad s.heap σ H locs → lv_has ls 7 [(0, .ref (ad 0)), (1, .int x1), (2, .int x2)] → W p l e (headSpec wsX9_layTables rm_X9_layTables).room s m args below meth c H locs 0 0 (MQ below (va_Qv Q (hh_B D hh_cl hm_Y cy ad) (hh_A hm_Y ad)) args s 0 0 (hh_A hm_Y ad)) (F0 m 12 ls [])) (K19 : Int32 → hh_S → Prop) (hK19 : ∀ (x3 : Int32) (σ : hh_S) (H : Heap) (locs : List Loc) (ls : Array Slot), K19 x3 σ → hh_H D hh_cl hm_Y cy ad s.heap σ H locs → lv_has ls 7 [(0, .ref (ad 0)), (1, .int x1), (2, .int x2), (3, .int x3)] → W p l e (headSpec wsX9_layTables rm_X9_layTables).room s m args below meth c H locs 0 0 (MQ below (va_Qv Q (hh_B D hh_cl hm_Y cy ad) (hh_A hm_Y ad)) args s 0 0 (hh_A hm_Y ad)) (F0 m 19 ls [])) (n : Nat) (x4 : Int64) (x6 : Int32) (σ : hh_S) (H : Heap) (locs : List Loc) (ls : Array Slot), hh_lp2 (wq_X9_layTables_30 K2 K12 K19 x1 x2 x3 Q) n x4 x6 σ → hh_H D hh_cl hm_Y cy ad s.heap σ H locs → lv_has ls 7 [(0, .ref (ad 0)), (1, .int x1), (2, .int x2), (3, .int x3), (4, .long x4), (6, .int x6)] → W p l e (headSpec wsX9_layTables rm_X9_layTables).room s m args below meth c H locs 0 0 (MQ below (va_Qv Q (hh_B D hh_cl hm_Y cy ad) (hh_A hm_Y ad)) args s 0 0 (hh_A hm_Y ad)) (F0 m 30 ls []) := by
    intro x1 x2 x3 K2 hK2 K12 hK12 K19 hK19 n
    induction n with
    | zero => intro x4 x6 σ H locs ls hq h hl; exact hq.elim
    | succ n ih =>
      intro x4 x6 σ H locs ls hq h hl
      have hq : wq_X9_layTables_30 K2 K12 K19 x1 x2 x3 Q (hh_lp2 (wq_X9_layTables_30 K2 K12 K19 x1 x2 x3 Q) n) x4 x6 σ := hq
      unfold wq_X9_layTables_30 at hq
      refine lv_iload hx hb1 dX9_layTables_30 (lv_at hl 5 rfl) ?_
      refine lv_iload_n hx hb1 dX9_layTables_32 rfl (lv_at hl 2 rfl) ?_
      refine lv_icmp_ge (tgt := 56) hx hb1 dX9_layTables_33 (by decide) (fun c9 => ?_) (fun c9 => ?_)
      · have hq := hq.1 c9
        refine lv_iconst (v := (0 : Int32)) hx hb1 dX9_layTables_56 (by decide) ?_
        refine lv_istore (lv' := [(6, .int (0 : Int32)), (0, .ref (ad 0)), (1, .int x1), (2, .int x2), (3, .int x3), (4, .long x4)]) hx hb1 dX9_layTables_57 hl (by decide) rfl (fun ls hl => ?_)
        obtain ⟨n10, hq⟩ := hq
        exact lt_59 x1 x2 x3 x4 K2 hK2 K12 hK12 K19 hK19 n10 (0 : Int32) σ _ _ ls hq h (lv_sub hl [1, 2, 3, 4, 5, 0] rfl)
      · have hq := hq.2 c9
        refine lv_lload hx hb1 dX9_layTables_36 (lv_at hl 4 rfl) ?_
        refine lv_aload_n hx hb1 dX9_layTables_38 rfl (lv_at hl 0 rfl) ?_
        refine lv_iload_n hx hb1 dX9_layTables_39 rfl (lv_at hl 1 rfl) ?_
        refine lv_iload_n hx hb1 dX9_layTables_40 rfl (lv_at hl 2 rfl) ?_
        refine lv_iload_n hx hb1 dX9_layTables_41 rfl (lv_at hl 3 rfl) ?_
        refine lv_iload hx hb1 dX9_layTables_42 (lv_at hl 5 rfl) ?_
        refine hh_kL h (va_runV (As := [.int x1, .int x2, .int x3, .int x6]) (rest := [.long x4]) X.1 (ad_X9_saidBy (D := D) l J x1 x2 x3 x6 σ _ hq) (cwV 4 X.1.2.2.2.2 gX9_layTables_X9_saidBy rfl rfl rfl nd_X9_saidBy ⟨Nat.le_of_ble_eq_true rfl, Nat.le_of_ble_eq_true rfl⟩) (hh_preV X h fm_0_0 km_0 [.int x1, .int x2, .int x3, .int x6]) rfl rfl hl.1 rfl (lv_room (Nat.le_of_ble_eq_true rfl)) dX9_layTables_44 ⟨Nat.le_of_ble_eq_true rfl, Nat.le_of_ble_eq_true rfl⟩) (fun r11 σ12 H locs hq h => ?_)
        refine lv_ladd hx hb1 dX9_layTables_47 ?_
        refine lv_topl (fun v13 ev13 => ?_)
        have hq := hq v13 ev13
        refine lv_lstore (lv' := [(4, .long v13), (0, .ref (ad 0)), (1, .int x1), (2, .int x2), (3, .int x3), (6, .int x6)]) hx hb1 dX9_layTables_48 hl (by decide) rfl (fun ls hl => ?_)
        refine lv_iinc (v := (x6 + (1 : Int32))) (lv' := [(6, .int (x6 + (1 : Int32))), (4, .long v13), (0, .ref (ad 0)), (1, .int x1), (2, .int x2), (3, .int x3)]) hx hb1 dX9_layTables_50 hl (k := 5) rfl rfl (by decide) rfl (fun ls hl => ?_)
        refine lv_goto (tgt := 30) hx hb1 dX9_layTables_53 (by decide) ?_
        exact ih v13 (x6 + (1 : Int32)) σ12 _ _ ls hq h (lv_sub hl [2, 3, 4, 5, 1, 0] rfl)
  have lt_19 : ∀ (x1 : Int32) (x2 : Int32) (K2 : Int32 → hh_S → Prop) (hK2 : ∀ (x1 : Int32) (σ : hh_S) (H : Heap) (locs : List Loc) (ls : Array Slot), K2 x1 σ → hh_H D hh_cl hm_Y cy ad s.heap σ H locs → lv_has ls 7 [(0, .ref (ad 0)), (1, .int x1)] → W p l e (headSpec wsX9_layTables rm_X9_layTables).room s m args below meth c H locs 0 0 (MQ below (va_Qv Q (hh_B D hh_cl hm_Y cy ad) (hh_A hm_Y ad)) args s 0 0 (hh_A hm_Y ad)) (F0 m 2 ls [])) (K12 : Int32 → hh_S → Prop) (hK12 : ∀ (x2 : Int32) (σ : hh_S) (H : Heap) (locs : List Loc) (ls : Array Slot), K12 x2 σ → hh_H D hh_cl hm_Y cy ad s.heap σ H locs → lv_has ls 7 [(0, .ref (ad 0)), (1, .int x1), (2, .int x2)] → W p l e (headSpec wsX9_layTables rm_X9_layTables).room s m args below meth c H locs 0 0 (MQ below (va_Qv Q (hh_B D hh_cl hm_Y cy ad) (hh_A hm_Y ad)) args s 0 0 (hh_A hm_Y ad)) (F0 m 12 ls [])) (n : Nat) (x3 : Int32) (σ : hh_S) (H : Heap) (locs : List Loc) (ls : Array Slot), hh_lp1 (wq_X9_layTables_19 K2 K12 x1 x2 Q) n x3 σ → hh_H D hh_cl hm_Y cy ad s.heap σ H locs → lv_has ls 7 [(0, .ref (ad 0)), (1, .int x1), (2, .int x2), (3, .int x3)] → W p l e (headSpec wsX9_layTables rm_X9_layTables).room s m args below meth c H locs 0 0 (MQ below (va_Qv Q (hh_B D hh_cl hm_Y cy ad) (hh_A hm_Y ad)) args s 0 0 (hh_A hm_Y ad)) (F0 m 19 ls []) := by
    intro x1 x2 K2 hK2 K12 hK12 n
    induction n with
    | zero => intro x3 σ H locs ls hq h hl; exact hq.elim
    | succ n ih =>
      intro x3 σ H locs ls hq h hl
      have hq : wq_X9_layTables_19 K2 K12 x1 x2 Q (hh_lp1 (wq_X9_layTables_19 K2 K12 x1 x2 Q) n) x3 σ := hq
      unfold wq_X9_layTables_19 at hq
      refine lv_iload_n hx hb1 dX9_layTables_19 rfl (lv_at hl 3 rfl) ?_
      refine lv_iload_n hx hb1 dX9_layTables_20 rfl (lv_at hl 2 rfl) ?_
      refine lv_icmp_ge (tgt := 107) hx hb1 dX9_layTables_21 (by decide) (fun c14 => ?_) (fun c14 => ?_)
      · have hq := hq.1 c14
        refine lv_iinc (v := (x2 + (1 : Int32))) (lv' := [(2, .int (x2 + (1 : Int32))), (0, .ref (ad 0)), (1, .int x1), (3, .int x3)]) hx hb1 dX9_layTables_107 hl (k := 2) rfl rfl (by decide) rfl (fun ls hl => ?_)
        refine lv_goto (tgt := 12) hx hb1 dX9_layTables_110 (by decide) ?_
        exact hK12 (x2 + (1 : Int32)) σ _ _ ls hq h (lv_sub hl [1, 2, 0] rfl)
      · have hq := hq.2 c14
        refine lv_lconst (v := (0 : Int64)) hx hb1 dX9_layTables_24 (by decide) ?_
        refine lv_lstore (lv' := [(4, .long (0 : Int64)), (0, .ref (ad 0)), (1, .int x1), (2, .int x2), (3, .int x3)]) hx hb1 dX9_layTables_25 hl (by decide) rfl (fun ls hl => ?_)
        refine lv_iconst (v := (0 : Int32)) hx hb1 dX9_layTables_27 (by decide) ?_
        refine lv_istore (lv' := [(6, .int (0 : Int32)), (4, .long (0 : Int64)), (0, .ref (ad 0)), (1, .int x1), (2, .int x2), (3, .int x3)]) hx hb1 dX9_layTables_28 hl (by decide) rfl (fun ls hl => ?_)
        obtain ⟨n15, hq⟩ := hq
        exact lt_30 x1 x2 x3 K2 hK2 K12 hK12 (hh_lp1 (wq_X9_layTables_19 K2 K12 x1 x2 Q) n) ih n15 (0 : Int64) (0 : Int32) σ _ _ ls hq h (lv_sub hl [2, 3, 4, 5, 1, 0] rfl)
  have lt_12 : ∀ (x1 : Int32) (K2 : Int32 → hh_S → Prop) (hK2 : ∀ (x1 : Int32) (σ : hh_S) (H : Heap) (locs : List Loc) (ls : Array Slot), K2 x1 σ → hh_H D hh_cl hm_Y cy ad s.heap σ H locs → lv_has ls 7 [(0, .ref (ad 0)), (1, .int x1)] → W p l e (headSpec wsX9_layTables rm_X9_layTables).room s m args below meth c H locs 0 0 (MQ below (va_Qv Q (hh_B D hh_cl hm_Y cy ad) (hh_A hm_Y ad)) args s 0 0 (hh_A hm_Y ad)) (F0 m 2 ls [])) (n : Nat) (x2 : Int32) (σ : hh_S) (H : Heap) (locs : List Loc) (ls : Array Slot), hh_lp1 (wq_X9_layTables_12 K2 x1 Q) n x2 σ → hh_H D hh_cl hm_Y cy ad s.heap σ H locs → lv_has ls 7 [(0, .ref (ad 0)), (1, .int x1), (2, .int x2)] → W p l e (headSpec wsX9_layTables rm_X9_layTables).room s m args below meth c H locs 0 0 (MQ below (va_Qv Q (hh_B D hh_cl hm_Y cy ad) (hh_A hm_Y ad)) args s 0 0 (hh_A hm_Y ad)) (F0 m 12 ls []) := by
    intro x1 K2 hK2 n
    induction n with
    | zero => intro x2 σ H locs ls hq h hl; exact hq.elim
    | succ n ih =>
      intro x2 σ H locs ls hq h hl
      have hq : wq_X9_layTables_12 K2 x1 Q (hh_lp1 (wq_X9_layTables_12 K2 x1 Q) n) x2 σ := hq
      unfold wq_X9_layTables_12 at hq
      refine lv_iload_n hx hb1 dX9_layTables_12 rfl (lv_at hl 2 rfl) ?_
      refine lv_iconst (v := (4 : Int32)) hx hb1 dX9_layTables_13 (by decide) ?_
      refine lv_icmp_gt (tgt := 113) hx hb1 dX9_layTables_14 (by decide) (fun c16 => ?_) (fun c16 => ?_)
      · have hq := hq.1 c16
        refine lv_iinc (v := (x1 + (1 : Int32))) (lv' := [(1, .int (x1 + (1 : Int32))), (0, .ref (ad 0)), (2, .int x2)]) hx hb1 dX9_layTables_113 hl (k := 1) rfl rfl (by decide) rfl (fun ls hl => ?_)
        refine lv_goto (tgt := 2) hx hb1 dX9_layTables_116 (by decide) ?_
        exact hK2 (x1 + (1 : Int32)) σ _ _ ls hq h (lv_sub hl [1, 0] rfl)
      · have hq := hq.2 c16
        refine lv_iconst (v := (0 : Int32)) hx hb1 dX9_layTables_17 (by decide) ?_
        refine lv_istore_n (lv' := [(3, .int (0 : Int32)), (0, .ref (ad 0)), (1, .int x1), (2, .int x2)]) hx hb1 dX9_layTables_18 rfl hl (by decide) rfl (fun ls hl => ?_)
        obtain ⟨n17, hq⟩ := hq
        exact lt_19 x1 x2 K2 hK2 (hh_lp1 (wq_X9_layTables_12 K2 x1 Q) n) ih n17 (0 : Int32) σ _ _ ls hq h (lv_sub hl [1, 2, 3, 0] rfl)
  have lt_2 : ∀ (n : Nat) (x1 : Int32) (σ : hh_S) (H : Heap) (locs : List Loc) (ls : Array Slot), hh_lp1 (wq_X9_layTables_2 Q) n x1 σ → hh_H D hh_cl hm_Y cy ad s.heap σ H locs → lv_has ls 7 [(0, .ref (ad 0)), (1, .int x1)] → W p l e (headSpec wsX9_layTables rm_X9_layTables).room s m args below meth c H locs 0 0 (MQ below (va_Qv Q (hh_B D hh_cl hm_Y cy ad) (hh_A hm_Y ad)) args s 0 0 (hh_A hm_Y ad)) (F0 m 2 ls []) := by
    intro n
    induction n with
    | zero => intro x1 σ H locs ls hq h hl; exact hq.elim
    | succ n ih =>
      intro x1 σ H locs ls hq h hl
      have hq : wq_X9_layTables_2 Q (hh_lp1 (wq_X9_layTables_2 Q) n) x1 σ := hq
      unfold wq_X9_layTables_2 at hq
      refine lv_iload_n hx hb1 dX9_layTables_2 rfl (lv_at hl 1 rfl) ?_
      refine lv_aload_n hx hb1 dX9_layTables_3 rfl (lv_at hl 0 rfl) ?_
      refine hh_geti X h (q := 13) fm_0_13 rfl in_X9_layTables_X9 km_0 (by decide) (List.mem_of_getElem? (i := 1) rfl) rfl dX9_layTables_4 ?_
      refine lv_icmp_ge (tgt := 119) hx hb1 dX9_layTables_7 (by decide) (fun c18 => ?_) (fun c18 => ?_)
      · have hq := hq.1 c18
        exact hh_vret X h hr hlocks hq dX9_layTables_119
      · have hq := hq.2 c18
        refine lv_iconst (v := (2 : Int32)) hx hb1 dX9_layTables_10 (by decide) ?_
        refine lv_istore_n (lv' := [(2, .int (2 : Int32)), (0, .ref (ad 0)), (1, .int x1)]) hx hb1 dX9_layTables_11 rfl hl (by decide) rfl (fun ls hl => ?_)
        obtain ⟨n19, hq⟩ := hq
        exact lt_12 x1 (hh_lp1 (wq_X9_layTables_2 Q) n) ih n19 (2 : Int32) σ _ _ ls hq h (lv_sub hl [1, 2, 0] rfl)
  subst hargs
  refine hh_entry (vs := [.ref (ad 0)]) (Nat.le_of_ble_eq_true rfl) (fun ls hl => ?_)
  have hl : lv_has ls 7 [(0, .ref (ad 0))] := hl
  have hq : wp_X9_layTables σ Q := hq
  unfold wp_X9_layTables at hq
  refine lv_iconst (v := (0 : Int32)) hx hb1 dX9_layTables_0 (by decide) ?_
  refine lv_istore_n (lv' := [(1, .int (0 : Int32)), (0, .ref (ad 0))]) hx hb1 dX9_layTables_1 rfl hl (by decide) rfl (fun ls hl => ?_)
  obtain ⟨n20, hq⟩ := hq
  exact lt_2 n20 (0 : Int32) σ _ _ ls hq h (lv_sub hl [1, 0] rfl)
theorem nd_X9_turnShares : yX9_turnShares.cls = RX9 ∧ yX9_turnShares.cls ≠ "java/lang/invoke/MethodHandle" ∧ yX9_turnShares.cls ≠ "java/lang/invoke/VarHandle" ∧ (parseMethodDescriptor yX9_turnShares.desc).map (fun d => d.parameters.length) = some 0 := by decide +kernel
abbrev rm_X9_turnShares : Room := { frames := 2, cells := 0, slots := 0, locals := 45 }
def wq_X9_turnShares_217 (K4 : Int32 → Int32 → hh_S → Prop) (x2 : Int32) (x3 : Int32) (Q : Int32 → hh_S → Prop) (K217 : Int32 → Int32 → hh_S → Prop) (x1 : Int32) (x4 : Int32) (σ : hh_S) : Prop := ((x3 ≤ x4 → (K4 x1 (x2 + (1 : Int32)) σ)) ∧ (¬ x3 ≤ x4 → (vp_in x4 4 ∧ (vp_in (((4 : Int32) * x2) + x4) 96 ∧ (((hh_rA σ 17 (((4 : Int32) * x2) + x4)) ≤ (hh_rA σ 25 x4) → (vp_in x4 4 ∧ (vp_in (((4 : Int32) * x2) + x4) 96 ∧ (∀ v7 : Int32, v7 = ((hh_rA σ 25 x4) - (hh_rA σ 17 (((4 : Int32) * x2) + x4))) → ((v7 ≤ x1 → (vp_in x4 4 ∧ (vp_in (((4 : Int32) * x2) + x4) 96 ∧ ∀ σ11 : hh_S, σ11 = hh_sA σ 17 (((4 : Int32) * x2) + x4) (hh_rA σ 25 x4) → (K217 x1 (x4 + (1 : Int32)) σ11)))) ∧ (¬ v7 ≤ x1 → (vp_in x4 4 ∧ (vp_in (((4 : Int32) * x2) + x4) 96 ∧ ∀ σ14 : hh_S, σ14 = hh_sA σ 17 (((4 : Int32) * x2) + x4) (hh_rA σ 25 x4) → (K217 v7 (x4 + (1 : Int32)) σ14))))))))) ∧ (¬ (hh_rA σ 17 (((4 : Int32) * x2) + x4)) ≤ (hh_rA σ 25 x4) → (vp_in (((4 : Int32) * x2) + x4) 96 ∧ (vp_in x4 4 ∧ (∀ v17 : Int32, v17 = ((hh_rA σ 17 (((4 : Int32) * x2) + x4)) - (hh_rA σ 25 x4)) → ((v17 ≤ x1 → (vp_in x4 4 ∧ (vp_in (((4 : Int32) * x2) + x4) 96 ∧ ∀ σ21 : hh_S, σ21 = hh_sA σ 17 (((4 : Int32) * x2) + x4) (hh_rA σ 25 x4) → (K217 x1 (x4 + (1 : Int32)) σ21)))) ∧ (¬ v17 ≤ x1 → (vp_in x4 4 ∧ (vp_in (((4 : Int32) * x2) + x4) 96 ∧ ∀ σ24 : hh_S, σ24 = hh_sA σ 17 (((4 : Int32) * x2) + x4) (hh_rA σ 25 x4) → (K217 v17 (x4 + (1 : Int32)) σ24))))))))))))))
def wq_X9_turnShares_149 (K4 : Int32 → Int32 → hh_S → Prop) (K63 : Int32 → hh_S → Prop) (x1 : Int32) (x2 : Int32) (x3 : Int32) (x4 : Int32) (x5 : Int32) (x6 : Int64) (Q : Int32 → hh_S → Prop) (K149 : Int32 → hh_S → Prop) (x8 : Int32) (σ : hh_S) : Prop := ((x3 ≤ x8 → (K63 (x4 + (1 : Int32)) σ)) ∧ (¬ x3 ≤ x8 → (((lg_cmp x6 (0 : Int64)) ≤ 0 → (K63 (x4 + (1 : Int32)) σ)) ∧ (¬ (lg_cmp x6 (0 : Int64)) ≤ 0 → (vp_in x8 4 ∧ (wp_X9_at x4 x3 x8 x5 σ (fun (r28 : Int32) (σ29 : hh_S) => (vp_in r28 480 ∧ ((¬ x6 = 0) ∧ (vp_in x8 4 ∧ ∀ σ33 : hh_S, σ33 = hh_sA σ29 25 x8 ((((((hh_rA σ 25 x8).toInt64) * ((hh_rA σ29 18 r28).toInt64)) * (1000000 : Int64)) / x6).toInt32) → (K149 (x8 + (1 : Int32)) σ33)))))))))))
def wq_X9_turnShares_104 (K4 : Int32 → Int32 → hh_S → Prop) (K63 : Int32 → hh_S → Prop) (x1 : Int32) (x2 : Int32) (x3 : Int32) (x4 : Int32) (x5 : Int32) (Q : Int32 → hh_S → Prop) (K104 : Int64 → Int32 → hh_S → Prop) (x6 : Int64) (x8 : Int32) (σ : hh_S) : Prop := ((x3 ≤ x8 → (∃ n : Nat, hh_lp1 (wq_X9_turnShares_149 K4 K63 x1 x2 x3 x4 x5 x6 Q) n (0 : Int32) σ)) ∧ (¬ x3 ≤ x8 → (vp_in x8 4 ∧ (wp_X9_at x4 x3 x8 x5 σ (fun (r37 : Int32) (σ38 : hh_S) => (vp_in r37 480 ∧ (∀ v40 : Int64, v40 = (x6 + (((hh_rA σ 25 x8).toInt64) * ((hh_rA σ38 18 r37).toInt64))) → (K104 v40 (x8 + (1 : Int32)) σ38))))))))
def wq_X9_turnShares_63 (K4 : Int32 → Int32 → hh_S → Prop) (x1 : Int32) (x2 : Int32) (x3 : Int32) (Q : Int32 → hh_S → Prop) (K63 : Int32 → hh_S → Prop) (x4 : Int32) (σ : hh_S) : Prop := (((hh_I σ 13) ≤ x4 → (∃ n : Nat, hh_lp2 (wq_X9_turnShares_217 K4 x2 x3 Q) n x1 (0 : Int32) σ)) ∧ (¬ (hh_I σ 13) ≤ x4 → (wp_X9_counts x4 x2 σ (fun (r43 : Int32) (σ44 : hh_S) => ((r43 = 0 → (K63 (x4 + (1 : Int32)) σ44)) ∧ (¬ r43 = 0 → (vp_in (((24 : Int32) * x4) + x2) 240 ∧ (∀ v47 : Int32, v47 = ((hh_rA σ44 13 (((24 : Int32) * x4) + x2)) - (1 : Int32)) → (∃ n : Nat, hh_lp2 (wq_X9_turnShares_104 K4 K63 x1 x2 x3 x4 v47 Q) n (0 : Int64) (0 : Int32) σ44)))))))))
def wq_X9_turnShares_37 (K4 : Int32 → Int32 → hh_S → Prop) (x1 : Int32) (x2 : Int32) (x3 : Int32) (Q : Int32 → hh_S → Prop) (K37 : Int32 → hh_S → Prop) (x4 : Int32) (σ : hh_S) : Prop := ((x3 ≤ x4 → (∃ n : Nat, hh_lp1 (wq_X9_turnShares_63 K4 x1 x2 x3 Q) n (0 : Int32) σ)) ∧ (¬ x3 ≤ x4 → ((¬ x3 = 0) ∧ (vp_in x4 4 ∧ ∀ σ53 : hh_S, σ53 = hh_sA σ 25 x4 ((1000000 : Int32) / x3) → (K37 (x4 + (1 : Int32)) σ53)))))
def wq_X9_turnShares_4 (Q : Int32 → hh_S → Prop) (K4 : Int32 → Int32 → hh_S → Prop) (x1 : Int32) (x2 : Int32) (σ : hh_S) : Prop := (((hh_I σ 7) ≤ x2 → (Q x1 σ)) ∧ (¬ (hh_I σ 7) ≤ x2 → (wp_X9_labelsOf x2 σ (fun (r55 : Int32) (σ56 : hh_S) => (wp_X9_fixed x2 σ56 (fun (r57 : Int32) (σ58 : hh_S) => ((0 ≤ r57 → (K4 x1 (x2 + (1 : Int32)) σ58)) ∧ (¬ 0 ≤ r57 → (wp_X9_countOf x2 σ58 (fun (r60 : Int32) (σ61 : hh_S) => ((r60 ≤ 0 → (K4 x1 (x2 + (1 : Int32)) σ61)) ∧ (¬ r60 ≤ 0 → (∃ n : Nat, hh_lp1 (wq_X9_turnShares_37 K4 x1 x2 r55 Q) n (0 : Int32) σ61)))))))))))))
def wp_X9_turnShares (σ : hh_S) (Q : Int32 → hh_S → Prop) : Prop := (∃ n : Nat, hh_lp2 (wq_X9_turnShares_4 Q) n (0 : Int32) (0 : Int32) σ)
theorem in_X9_turnShares_X9 : ∀ w ∈ u_ws RX9 TX9 37, w ∈ wsX9_turnShares := fun w h => List.mem_cons_of_mem _ (List.mem_append_right _ h)
set_option maxHeartbeats 4000000 in
set_option maxRecDepth 100000 in
theorem ad_X9_turnShares {D : va_G} (l : Launch) {cy : Nat → ClassId} {ad : Nat → Nat} (J : hh_J hm_Y ad) (σ : hh_S) (Q : Int32 → hh_S → Prop) (hq : wp_X9_turnShares σ Q) : Met l yX9_turnShares wsX9_turnShares rm_X9_turnShares (va_Pc [.ref (ad 0)] (hh_B D hh_cl hm_Y cy ad σ)) (va_Qi Q (hh_B D hh_cl hm_Y cy ad) (hh_A hm_Y ad)) 0 0 (hh_A hm_Y ad) := by
  refine Met.ofW (cc := cX9_turnShares) (maxL := 9) (ret := (some .int)) (by decide) rfl ?_
  intro p e s m args below meth c s₁ B hml hv
  obtain ⟨hargs, hP0, hK0⟩ := hv
  have hr := B.returns
  have hlocks := B.notSynchronized
  have X : hh_X p m c cX9_turnShares 9 s args wsX9_turnShares RX9 D hh_cl hm_Y cy ad := ⟨⟨B.exec, B.bytes, hml, findClass_of_methodNamed B.named, atoms_spec (ws := wsX9_turnShares) B.pre⟩, hK0, J⟩
  have hx := X.1.1
  have hb1 := X.1.2.1
  have h : hh_H D hh_cl hm_Y cy ad s.heap σ s.heap [] := ⟨hP0, va_S.rf⟩
  have lt_217 : ∀ (x2 : Int32) (x3 : Int32) (K4 : Int32 → Int32 → hh_S → Prop) (hK4 : ∀ (x1 : Int32) (x2 : Int32) (σ : hh_S) (H : Heap) (locs : List Loc) (ls : Array Slot), K4 x1 x2 σ → hh_H D hh_cl hm_Y cy ad s.heap σ H locs → lv_has ls 9 [(0, .ref (ad 0)), (1, .int x1), (2, .int x2)] → W p l e (headSpec wsX9_turnShares rm_X9_turnShares).room s m args below meth c H locs 0 0 (MQ below (va_Qi Q (hh_B D hh_cl hm_Y cy ad) (hh_A hm_Y ad)) args s 0 0 (hh_A hm_Y ad)) (F0 m 4 ls [])) (n : Nat) (x1 : Int32) (x4 : Int32) (σ : hh_S) (H : Heap) (locs : List Loc) (ls : Array Slot), hh_lp2 (wq_X9_turnShares_217 K4 x2 x3 Q) n x1 x4 σ → hh_H D hh_cl hm_Y cy ad s.heap σ H locs → lv_has ls 9 [(0, .ref (ad 0)), (1, .int x1), (2, .int x2), (3, .int x3), (4, .int x4)] → W p l e (headSpec wsX9_turnShares rm_X9_turnShares).room s m args below meth c H locs 0 0 (MQ below (va_Qi Q (hh_B D hh_cl hm_Y cy ad) (hh_A hm_Y ad)) args s 0 0 (hh_A hm_Y ad)) (F0 m 217 ls []) := by
    intro x2 x3 K4 hK4 n
    induction n with
    | zero => intro x1 x4 σ H locs ls hq h hl; exact hq.elim
    | succ n ih =>
      intro x1 x4 σ H locs ls hq h hl
      have hq : wq_X9_turnShares_217 K4 x2 x3 Q (hh_lp2 (wq_X9_turnShares_217 K4 x2 x3 Q) n) x1 x4 σ := hq
      unfold wq_X9_turnShares_217 at hq
      refine lv_iload hx hb1 dX9_turnShares_217 (lv_at hl 4 rfl) ?_
      refine lv_iload_n hx hb1 dX9_turnShares_219 rfl (lv_at hl 3 rfl) ?_
      refine lv_icmp_ge (tgt := 324) hx hb1 dX9_turnShares_220 (by decide) (fun c1 => ?_) (fun c1 => ?_)
      · have hq := hq.1 c1
        refine lv_iinc (v := (x2 + (1 : Int32))) (lv' := [(2, .int (x2 + (1 : Int32))), (0, .ref (ad 0)), (1, .int x1), (3, .int x3), (4, .int x4)]) hx hb1 dX9_turnShares_324 hl (k := 2) rfl rfl (by decide) rfl (fun ls hl => ?_)
        refine lv_goto (tgt := 4) hx hb1 dX9_turnShares_327 (by decide) ?_
        exact hK4 x1 (x2 + (1 : Int32)) σ _ _ ls hq h (lv_sub hl [1, 2, 0] rfl)
      · have hq := hq.2 c1
        refine lv_aload_n hx hb1 dX9_turnShares_223 rfl (lv_at hl 0 rfl) ?_
        refine hh_getr X h fm_0_32 in_X9_turnShares_X9 km_0 (by decide) (List.mem_of_getElem? (i := 2) rfl) rfl dX9_turnShares_224 ?_
        refine lv_iload hx hb1 dX9_turnShares_227 (lv_at hl 4 rfl) ?_
        obtain ⟨h2, hq⟩ := hq
        refine hh_ild X h am_25 h2 dX9_turnShares_229 ?_
        refine lv_aload_n hx hb1 dX9_turnShares_230 rfl (lv_at hl 0 rfl) ?_
        refine hh_getr X h fm_0_23 in_X9_turnShares_X9 km_0 (by decide) (List.mem_of_getElem? (i := 8) rfl) rfl dX9_turnShares_231 ?_
        refine lv_iconst (v := (4 : Int32)) hx hb1 dX9_turnShares_234 (by decide) ?_
        refine lv_iload_n hx hb1 dX9_turnShares_235 rfl (lv_at hl 2 rfl) ?_
        refine lv_imul hx hb1 dX9_turnShares_236 ?_
        refine lv_iload hx hb1 dX9_turnShares_237 (lv_at hl 4 rfl) ?_
        refine lv_iadd hx hb1 dX9_turnShares_239 ?_
        obtain ⟨h3, hq⟩ := hq
        refine hh_ild X h am_17 h3 dX9_turnShares_240 ?_
        refine lv_icmp_ge (tgt := 266) hx hb1 dX9_turnShares_241 (by decide) (fun c4 => ?_) (fun c4 => ?_)
        · have hq := hq.1 c4
          refine lv_aload_n hx hb1 dX9_turnShares_266 rfl (lv_at hl 0 rfl) ?_
          refine hh_getr X h fm_0_32 in_X9_turnShares_X9 km_0 (by decide) (List.mem_of_getElem? (i := 2) rfl) rfl dX9_turnShares_267 ?_
          refine lv_iload hx hb1 dX9_turnShares_270 (lv_at hl 4 rfl) ?_
          obtain ⟨h5, hq⟩ := hq
          refine hh_ild X h am_25 h5 dX9_turnShares_272 ?_
          refine lv_aload_n hx hb1 dX9_turnShares_273 rfl (lv_at hl 0 rfl) ?_
          refine hh_getr X h fm_0_23 in_X9_turnShares_X9 km_0 (by decide) (List.mem_of_getElem? (i := 8) rfl) rfl dX9_turnShares_274 ?_
          refine lv_iconst (v := (4 : Int32)) hx hb1 dX9_turnShares_277 (by decide) ?_
          refine lv_iload_n hx hb1 dX9_turnShares_278 rfl (lv_at hl 2 rfl) ?_
          refine lv_imul hx hb1 dX9_turnShares_279 ?_
          refine lv_iload hx hb1 dX9_turnShares_280 (lv_at hl 4 rfl) ?_
          refine lv_iadd hx hb1 dX9_turnShares_282 ?_
          obtain ⟨h6, hq⟩ := hq
          refine hh_ild X h am_17 h6 dX9_turnShares_283 ?_
          refine lv_isub hx hb1 dX9_turnShares_284 ?_
          refine lv_topi (fun v7 ev7 => ?_)
          have hq := hq v7 ev7
          refine lv_istore (lv' := [(5, .int v7), (0, .ref (ad 0)), (1, .int x1), (2, .int x2), (3, .int x3), (4, .int x4)]) hx hb1 dX9_turnShares_285 hl (by decide) rfl (fun ls hl => ?_)
          refine lv_iload hx hb1 dX9_turnShares_287 (lv_at hl 0 rfl) ?_
          refine lv_iload_n hx hb1 dX9_turnShares_289 rfl (lv_at hl 2 rfl) ?_
          refine lv_icmp_le (tgt := 298) hx hb1 dX9_turnShares_290 (by decide) (fun c8 => ?_) (fun c8 => ?_)
          · have hq := hq.1 c8
            refine lv_iload_n hx hb1 dX9_turnShares_298 rfl (lv_at hl 2 rfl) ?_
            refine lv_istore_n (lv' := [(1, .int x1), (5, .int v7), (0, .ref (ad 0)), (2, .int x2), (3, .int x3), (4, .int x4)]) hx hb1 dX9_turnShares_299 rfl hl (by decide) rfl (fun ls hl => ?_)
            refine lv_aload_n hx hb1 dX9_turnShares_300 rfl (lv_at hl 2 rfl) ?_
            refine hh_getr X h fm_0_23 in_X9_turnShares_X9 km_0 (by decide) (List.mem_of_getElem? (i := 8) rfl) rfl dX9_turnShares_301 ?_
            refine lv_iconst (v := (4 : Int32)) hx hb1 dX9_turnShares_304 (by decide) ?_
            refine lv_iload_n hx hb1 dX9_turnShares_305 rfl (lv_at hl 3 rfl) ?_
            refine lv_imul hx hb1 dX9_turnShares_306 ?_
            refine lv_iload hx hb1 dX9_turnShares_307 (lv_at hl 5 rfl) ?_
            refine lv_iadd hx hb1 dX9_turnShares_309 ?_
            refine lv_aload_n hx hb1 dX9_turnShares_310 rfl (lv_at hl 2 rfl) ?_
            refine hh_getr X h fm_0_32 in_X9_turnShares_X9 km_0 (by decide) (List.mem_of_getElem? (i := 2) rfl) rfl dX9_turnShares_311 ?_
            refine lv_iload hx hb1 dX9_turnShares_314 (lv_at hl 5 rfl) ?_
            obtain ⟨h9, hq⟩ := hq
            refine hh_ild X h am_25 h9 dX9_turnShares_316 ?_
            obtain ⟨h10, hq⟩ := hq
            refine hh_ist X h am_17 h10 dX9_turnShares_317 (fun σ11 H locs eσ11 h => ?_)
            have hq := hq σ11 eσ11
            refine lv_iinc (v := (x4 + (1 : Int32))) (lv' := [(4, .int (x4 + (1 : Int32))), (1, .int x1), (5, .int v7), (0, .ref (ad 0)), (2, .int x2), (3, .int x3)]) hx hb1 dX9_turnShares_318 hl (k := 5) rfl rfl (by decide) rfl (fun ls hl => ?_)
            refine lv_goto (tgt := 217) hx hb1 dX9_turnShares_321 (by decide) ?_
            exact ih x1 (x4 + (1 : Int32)) σ11 _ _ ls hq h (lv_sub hl [3, 1, 4, 5, 0] rfl)
          · have hq := hq.2 c8
            refine lv_iload hx hb1 dX9_turnShares_293 (lv_at hl 0 rfl) ?_
            refine lv_goto (tgt := 299) hx hb1 dX9_turnShares_295 (by decide) ?_
            refine lv_istore_n (lv' := [(1, .int v7), (5, .int v7), (0, .ref (ad 0)), (2, .int x2), (3, .int x3), (4, .int x4)]) hx hb1 dX9_turnShares_299 rfl hl (by decide) rfl (fun ls hl => ?_)
            refine lv_aload_n hx hb1 dX9_turnShares_300 rfl (lv_at hl 2 rfl) ?_
            refine hh_getr X h fm_0_23 in_X9_turnShares_X9 km_0 (by decide) (List.mem_of_getElem? (i := 8) rfl) rfl dX9_turnShares_301 ?_
            refine lv_iconst (v := (4 : Int32)) hx hb1 dX9_turnShares_304 (by decide) ?_
            refine lv_iload_n hx hb1 dX9_turnShares_305 rfl (lv_at hl 3 rfl) ?_
            refine lv_imul hx hb1 dX9_turnShares_306 ?_
            refine lv_iload hx hb1 dX9_turnShares_307 (lv_at hl 5 rfl) ?_
            refine lv_iadd hx hb1 dX9_turnShares_309 ?_
            refine lv_aload_n hx hb1 dX9_turnShares_310 rfl (lv_at hl 2 rfl) ?_
            refine hh_getr X h fm_0_32 in_X9_turnShares_X9 km_0 (by decide) (List.mem_of_getElem? (i := 2) rfl) rfl dX9_turnShares_311 ?_
            refine lv_iload hx hb1 dX9_turnShares_314 (lv_at hl 5 rfl) ?_
            obtain ⟨h12, hq⟩ := hq
            refine hh_ild X h am_25 h12 dX9_turnShares_316 ?_
            obtain ⟨h13, hq⟩ := hq
            refine hh_ist X h am_17 h13 dX9_turnShares_317 (fun σ14 H locs eσ14 h => ?_)
            have hq := hq σ14 eσ14
            refine lv_iinc (v := (x4 + (1 : Int32))) (lv' := [(4, .int (x4 + (1 : Int32))), (1, .int v7), (5, .int v7), (0, .ref (ad 0)), (2, .int x2), (3, .int x3)]) hx hb1 dX9_turnShares_318 hl (k := 5) rfl rfl (by decide) rfl (fun ls hl => ?_)
            refine lv_goto (tgt := 217) hx hb1 dX9_turnShares_321 (by decide) ?_
            exact ih v7 (x4 + (1 : Int32)) σ14 _ _ ls hq h (lv_sub hl [3, 1, 4, 5, 0] rfl)
        · have hq := hq.2 c4
          refine lv_aload_n hx hb1 dX9_turnShares_244 rfl (lv_at hl 0 rfl) ?_
          refine hh_getr X h fm_0_23 in_X9_turnShares_X9 km_0 (by decide) (List.mem_of_getElem? (i := 8) rfl) rfl dX9_turnShares_245 ?_
          refine lv_iconst (v := (4 : Int32)) hx hb1 dX9_turnShares_248 (by decide) ?_
          refine lv_iload_n hx hb1 dX9_turnShares_249 rfl (lv_at hl 2 rfl) ?_
          refine lv_imul hx hb1 dX9_turnShares_250 ?_
          refine lv_iload hx hb1 dX9_turnShares_251 (lv_at hl 4 rfl) ?_
          refine lv_iadd hx hb1 dX9_turnShares_253 ?_
          obtain ⟨h15, hq⟩ := hq
          refine hh_ild X h am_17 h15 dX9_turnShares_254 ?_
          refine lv_aload_n hx hb1 dX9_turnShares_255 rfl (lv_at hl 0 rfl) ?_
          refine hh_getr X h fm_0_32 in_X9_turnShares_X9 km_0 (by decide) (List.mem_of_getElem? (i := 2) rfl) rfl dX9_turnShares_256 ?_
          refine lv_iload hx hb1 dX9_turnShares_259 (lv_at hl 4 rfl) ?_
          obtain ⟨h16, hq⟩ := hq
          refine hh_ild X h am_25 h16 dX9_turnShares_261 ?_
          refine lv_isub hx hb1 dX9_turnShares_262 ?_
          refine lv_goto (tgt := 285) hx hb1 dX9_turnShares_263 (by decide) ?_
          refine lv_topi (fun v17 ev17 => ?_)
          have hq := hq v17 ev17
          refine lv_istore (lv' := [(5, .int v17), (0, .ref (ad 0)), (1, .int x1), (2, .int x2), (3, .int x3), (4, .int x4)]) hx hb1 dX9_turnShares_285 hl (by decide) rfl (fun ls hl => ?_)
          refine lv_iload hx hb1 dX9_turnShares_287 (lv_at hl 0 rfl) ?_
          refine lv_iload_n hx hb1 dX9_turnShares_289 rfl (lv_at hl 2 rfl) ?_
          refine lv_icmp_le (tgt := 298) hx hb1 dX9_turnShares_290 (by decide) (fun c18 => ?_) (fun c18 => ?_)
          · have hq := hq.1 c18
            refine lv_iload_n hx hb1 dX9_turnShares_298 rfl (lv_at hl 2 rfl) ?_
            refine lv_istore_n (lv' := [(1, .int x1), (5, .int v17), (0, .ref (ad 0)), (2, .int x2), (3, .int x3), (4, .int x4)]) hx hb1 dX9_turnShares_299 rfl hl (by decide) rfl (fun ls hl => ?_)
            refine lv_aload_n hx hb1 dX9_turnShares_300 rfl (lv_at hl 2 rfl) ?_
            refine hh_getr X h fm_0_23 in_X9_turnShares_X9 km_0 (by decide) (List.mem_of_getElem? (i := 8) rfl) rfl dX9_turnShares_301 ?_
            refine lv_iconst (v := (4 : Int32)) hx hb1 dX9_turnShares_304 (by decide) ?_
            refine lv_iload_n hx hb1 dX9_turnShares_305 rfl (lv_at hl 3 rfl) ?_
            refine lv_imul hx hb1 dX9_turnShares_306 ?_
            refine lv_iload hx hb1 dX9_turnShares_307 (lv_at hl 5 rfl) ?_
            refine lv_iadd hx hb1 dX9_turnShares_309 ?_
            refine lv_aload_n hx hb1 dX9_turnShares_310 rfl (lv_at hl 2 rfl) ?_
            refine hh_getr X h fm_0_32 in_X9_turnShares_X9 km_0 (by decide) (List.mem_of_getElem? (i := 2) rfl) rfl dX9_turnShares_311 ?_
            refine lv_iload hx hb1 dX9_turnShares_314 (lv_at hl 5 rfl) ?_
            obtain ⟨h19, hq⟩ := hq
            refine hh_ild X h am_25 h19 dX9_turnShares_316 ?_
            obtain ⟨h20, hq⟩ := hq
            refine hh_ist X h am_17 h20 dX9_turnShares_317 (fun σ21 H locs eσ21 h => ?_)
            have hq := hq σ21 eσ21
            refine lv_iinc (v := (x4 + (1 : Int32))) (lv' := [(4, .int (x4 + (1 : Int32))), (1, .int x1), (5, .int v17), (0, .ref (ad 0)), (2, .int x2), (3, .int x3)]) hx hb1 dX9_turnShares_318 hl (k := 5) rfl rfl (by decide) rfl (fun ls hl => ?_)
            refine lv_goto (tgt := 217) hx hb1 dX9_turnShares_321 (by decide) ?_
            exact ih x1 (x4 + (1 : Int32)) σ21 _ _ ls hq h (lv_sub hl [3, 1, 4, 5, 0] rfl)
          · have hq := hq.2 c18
            refine lv_iload hx hb1 dX9_turnShares_293 (lv_at hl 0 rfl) ?_
            refine lv_goto (tgt := 299) hx hb1 dX9_turnShares_295 (by decide) ?_
            refine lv_istore_n (lv' := [(1, .int v17), (5, .int v17), (0, .ref (ad 0)), (2, .int x2), (3, .int x3), (4, .int x4)]) hx hb1 dX9_turnShares_299 rfl hl (by decide) rfl (fun ls hl => ?_)
            refine lv_aload_n hx hb1 dX9_turnShares_300 rfl (lv_at hl 2 rfl) ?_
            refine hh_getr X h fm_0_23 in_X9_turnShares_X9 km_0 (by decide) (List.mem_of_getElem? (i := 8) rfl) rfl dX9_turnShares_301 ?_
            refine lv_iconst (v := (4 : Int32)) hx hb1 dX9_turnShares_304 (by decide) ?_
            refine lv_iload_n hx hb1 dX9_turnShares_305 rfl (lv_at hl 3 rfl) ?_
            refine lv_imul hx hb1 dX9_turnShares_306 ?_
            refine lv_iload hx hb1 dX9_turnShares_307 (lv_at hl 5 rfl) ?_
            refine lv_iadd hx hb1 dX9_turnShares_309 ?_
            refine lv_aload_n hx hb1 dX9_turnShares_310 rfl (lv_at hl 2 rfl) ?_
            refine hh_getr X h fm_0_32 in_X9_turnShares_X9 km_0 (by decide) (List.mem_of_getElem? (i := 2) rfl) rfl dX9_turnShares_311 ?_
            refine lv_iload hx hb1 dX9_turnShares_314 (lv_at hl 5 rfl) ?_
            obtain ⟨h22, hq⟩ := hq
            refine hh_ild X h am_25 h22 dX9_turnShares_316 ?_
            obtain ⟨h23, hq⟩ := hq
            refine hh_ist X h am_17 h23 dX9_turnShares_317 (fun σ24 H locs eσ24 h => ?_)
            have hq := hq σ24 eσ24
            refine lv_iinc (v := (x4 + (1 : Int32))) (lv' := [(4, .int (x4 + (1 : Int32))), (1, .int v17), (5, .int v17), (0, .ref (ad 0)), (2, .int x2), (3, .int x3)]) hx hb1 dX9_turnShares_318 hl (k := 5) rfl rfl (by decide) rfl (fun ls hl => ?_)
            refine lv_goto (tgt := 217) hx hb1 dX9_turnShares_321 (by decide) ?_
            exact ih v17 (x4 + (1 : Int32)) σ24 _ _ ls hq h (lv_sub hl [3, 1, 4, 5, 0] rfl)
  have lt_149 : ∀ (x1 : Int32) (x2 : Int32) (x3 : Int32) (x4 : Int32) (x5 : Int32) (x6 : Int64) (K4 : Int32 → Int32 → hh_S → Prop) (hK4 : ∀ (x1 : Int32) (x2 : Int32) (σ : hh_S) (H : Heap) (locs : List Loc) (ls : Array Slot), K4 x1 x2 σ → hh_H D hh_cl hm_Y cy ad s.heap σ H locs → lv_has ls 9 [(0, .ref (ad 0)), (1, .int x1), (2, .int x2)] → W p l e (headSpec wsX9_turnShares rm_X9_turnShares).room s m args below meth c H locs 0 0 (MQ below (va_Qi Q (hh_B D hh_cl hm_Y cy ad) (hh_A hm_Y ad)) args s 0 0 (hh_A hm_Y ad)) (F0 m 4 ls [])) (K63 : Int32 → hh_S → Prop) (hK63 : ∀ (x4 : Int32) (σ : hh_S) (H : Heap) (locs : List Loc) (ls : Array Slot), K63 x4 σ → hh_H D hh_cl hm_Y cy ad s.heap σ H locs → lv_has ls 9 [(0, .ref (ad 0)), (1, .int x1), (2, .int x2), (3, .int x3), (4, .int x4)] → W p l e (headSpec wsX9_turnShares rm_X9_turnShares).room s m args below meth c H locs 0 0 (MQ below (va_Qi Q (hh_B D hh_cl hm_Y cy ad) (hh_A hm_Y ad)) args s 0 0 (hh_A hm_Y ad)) (F0 m 63 ls [])) (n : Nat) (x8 : Int32) (σ : hh_S) (H : Heap) (locs : List Loc) (ls : Array Slot), hh_lp1 (wq_X9_turnShares_149 K4 K63 x1 x2 x3 x4 x5 x6 Q) n x8 σ → hh_H D hh_cl hm_Y cy ad s.heap σ H locs → lv_has ls 9 [(0, .ref (ad 0)), (1, .int x1), (2, .int x2), (3, .int x3), (4, .int x4), (5, .int x5), (6, .long x6), (8, .int x8)] → W p l e (headSpec wsX9_turnShares rm_X9_turnShares).room s m args below meth c H locs 0 0 (MQ below (va_Qi Q (hh_B D hh_cl hm_Y cy ad) (hh_A hm_Y ad)) args s 0 0 (hh_A hm_Y ad)) (F0 m 149 ls []) := by
    intro x1 x2 x3 x4 x5 x6 K4 hK4 K63 hK63 n
    induction n with
    | zero => intro x8 σ H locs ls hq h hl; exact hq.elim
    | succ n ih =>
      intro x8 σ H locs ls hq h hl
      have hq : wq_X9_turnShares_149 K4 K63 x1 x2 x3 x4 x5 x6 Q (hh_lp1 (wq_X9_turnShares_149 K4 K63 x1 x2 x3 x4 x5 x6 Q) n) x8 σ := hq
      unfold wq_X9_turnShares_149 at hq
      refine lv_iload hx hb1 dX9_turnShares_149 (lv_at hl 7 rfl) ?_
      refine lv_iload_n hx hb1 dX9_turnShares_151 rfl (lv_at hl 3 rfl) ?_
      refine lv_icmp_ge (tgt := 208) hx hb1 dX9_turnShares_152 (by decide) (fun c25 => ?_) (fun c25 => ?_)
      · have hq := hq.1 c25
        refine lv_iinc (v := (x4 + (1 : Int32))) (lv' := [(4, .int (x4 + (1 : Int32))), (0, .ref (ad 0)), (1, .int x1), (2, .int x2), (3, .int x3), (5, .int x5), (6, .long x6), (8, .int x8)]) hx hb1 dX9_turnShares_208 hl (k := 4) rfl rfl (by decide) rfl (fun ls hl => ?_)
        refine lv_goto (tgt := 63) hx hb1 dX9_turnShares_211 (by decide) ?_
        exact hK63 (x4 + (1 : Int32)) σ _ _ ls hq h (lv_sub hl [1, 2, 3, 4, 0] rfl)
      · have hq := hq.2 c25
        refine lv_lload hx hb1 dX9_turnShares_155 (lv_at hl 6 rfl) ?_
        refine lv_lconst (v := (0 : Int64)) hx hb1 dX9_turnShares_157 (by decide) ?_
        refine W.lcmp hx hb1 dX9_turnShares_158 ?_
        refine lv_if_le (tgt := 208) hx hb1 dX9_turnShares_159 (by decide) (fun c26 => ?_) (fun c26 => ?_)
        · have hq := hq.1 c26
          refine lv_iinc (v := (x4 + (1 : Int32))) (lv' := [(4, .int (x4 + (1 : Int32))), (0, .ref (ad 0)), (1, .int x1), (2, .int x2), (3, .int x3), (5, .int x5), (6, .long x6), (8, .int x8)]) hx hb1 dX9_turnShares_208 hl (k := 4) rfl rfl (by decide) rfl (fun ls hl => ?_)
          refine lv_goto (tgt := 63) hx hb1 dX9_turnShares_211 (by decide) ?_
          exact hK63 (x4 + (1 : Int32)) σ _ _ ls hq h (lv_sub hl [1, 2, 3, 4, 0] rfl)
        · have hq := hq.2 c26
          refine lv_aload_n hx hb1 dX9_turnShares_162 rfl (lv_at hl 0 rfl) ?_
          refine hh_getr X h fm_0_32 in_X9_turnShares_X9 km_0 (by decide) (List.mem_of_getElem? (i := 2) rfl) rfl dX9_turnShares_163 ?_
          refine lv_iload hx hb1 dX9_turnShares_166 (lv_at hl 7 rfl) ?_
          refine lv_aload_n hx hb1 dX9_turnShares_168 rfl (lv_at hl 0 rfl) ?_
          refine hh_getr X h fm_0_32 in_X9_turnShares_X9 km_0 (by decide) (List.mem_of_getElem? (i := 2) rfl) rfl dX9_turnShares_169 ?_
          refine lv_iload hx hb1 dX9_turnShares_172 (lv_at hl 7 rfl) ?_
          obtain ⟨h27, hq⟩ := hq
          refine hh_ild X h am_25 h27 dX9_turnShares_174 ?_
          refine lv_i2l (v := ((hh_rA σ 25 x8)).toInt64) hx hb1 dX9_turnShares_175 rfl ?_
          refine lv_aload_n hx hb1 dX9_turnShares_176 rfl (lv_at hl 0 rfl) ?_
          refine hh_getr X h fm_0_24 in_X9_turnShares_X9 km_0 (by decide) (List.mem_of_getElem? (i := 6) rfl) rfl dX9_turnShares_177 ?_
          refine lv_iload hx hb1 dX9_turnShares_180 (lv_at hl 4 rfl) ?_
          refine lv_iload_n hx hb1 dX9_turnShares_182 rfl (lv_at hl 3 rfl) ?_
          refine lv_iload hx hb1 dX9_turnShares_183 (lv_at hl 7 rfl) ?_
          refine lv_iload hx hb1 dX9_turnShares_185 (lv_at hl 5 rfl) ?_
          refine hh_kI h (va_runS (As := [.int x4, .int x3, .int x8, .int x5]) (rest := [.ref (ad 18), .long ((hh_rA σ 25 x8).toInt64), .int x8, .ref (ad 25)]) X.1 (ad_X9_at (D := D) l J x4 x3 x8 x5 σ _ hq) (va_cwS 4 X.1.2.2.2.2 gX9_turnShares_X9_at rfl rfl rfl nd_X9_at ⟨Nat.le_of_ble_eq_true rfl, Nat.le_of_ble_eq_true rfl⟩) (hh_preS X h [.int x4, .int x3, .int x8, .int x5]) rfl rfl hl.1 rfl (lv_room (Nat.le_of_ble_eq_true rfl)) dX9_turnShares_187 ⟨Nat.le_of_ble_eq_true rfl, Nat.le_of_ble_eq_true rfl⟩) (fun r28 σ29 H locs hq h => ?_)
          obtain ⟨h30, hq⟩ := hq
          refine hh_ild X h am_18 h30 dX9_turnShares_190 ?_
          refine lv_i2l (v := ((hh_rA σ29 18 r28)).toInt64) hx hb1 dX9_turnShares_191 rfl ?_
          refine lv_lmul hx hb1 dX9_turnShares_192 ?_
          refine lv_ldc2 (v := (1000000 : Int64)) hx hb1 X.1.2.2.2.1 (X.1.2.2.2.2 _ (List.mem_of_getElem? (i := 7) rfl)) dX9_turnShares_193 ?_
          refine lv_lmul hx hb1 dX9_turnShares_196 ?_
          refine lv_lload hx hb1 dX9_turnShares_197 (lv_at hl 6 rfl) ?_
          obtain ⟨h31, hq⟩ := hq
          refine lv_ldiv hx hb1 dX9_turnShares_199 h31 ?_
          refine lv_l2i (v := ((((((hh_rA σ 25 x8).toInt64) * ((hh_rA σ29 18 r28).toInt64)) * (1000000 : Int64)) / x6)).toInt32) hx hb1 dX9_turnShares_200 rfl ?_
          obtain ⟨h32, hq⟩ := hq
          refine hh_ist X h am_25 h32 dX9_turnShares_201 (fun σ33 H locs eσ33 h => ?_)
          have hq := hq σ33 eσ33
          refine lv_iinc (v := (x8 + (1 : Int32))) (lv' := [(8, .int (x8 + (1 : Int32))), (0, .ref (ad 0)), (1, .int x1), (2, .int x2), (3, .int x3), (4, .int x4), (5, .int x5), (6, .long x6)]) hx hb1 dX9_turnShares_202 hl (k := 7) rfl rfl (by decide) rfl (fun ls hl => ?_)
          refine lv_goto (tgt := 149) hx hb1 dX9_turnShares_205 (by decide) ?_
          exact ih (x8 + (1 : Int32)) σ33 _ _ ls hq h (lv_sub hl [1, 2, 3, 4, 5, 6, 7, 0] rfl)
  have lt_104 : ∀ (x1 : Int32) (x2 : Int32) (x3 : Int32) (x4 : Int32) (x5 : Int32) (K4 : Int32 → Int32 → hh_S → Prop) (hK4 : ∀ (x1 : Int32) (x2 : Int32) (σ : hh_S) (H : Heap) (locs : List Loc) (ls : Array Slot), K4 x1 x2 σ → hh_H D hh_cl hm_Y cy ad s.heap σ H locs → lv_has ls 9 [(0, .ref (ad 0)), (1, .int x1), (2, .int x2)] → W p l e (headSpec wsX9_turnShares rm_X9_turnShares).room s m args below meth c H locs 0 0 (MQ below (va_Qi Q (hh_B D hh_cl hm_Y cy ad) (hh_A hm_Y ad)) args s 0 0 (hh_A hm_Y ad)) (F0 m 4 ls [])) (K63 : Int32 → hh_S → Prop) (hK63 : ∀ (x4 : Int32) (σ : hh_S) (H : Heap) (locs : List Loc) (ls : Array Slot), K63 x4 σ → hh_H D hh_cl hm_Y cy ad s.heap σ H locs → lv_has ls 9 [(0, .ref (ad 0)), (1, .int x1), (2, .int x2), (3, .int x3), (4, .int x4)] → W p l e (headSpec wsX9_turnShares rm_X9_turnShares).room s m args below meth c H locs 0 0 (MQ below (va_Qi Q (hh_B D hh_cl hm_Y cy ad) (hh_A hm_Y ad)) args s 0 0 (hh_A hm_Y ad)) (F0 m 63 ls [])) (n : Nat) (x6 : Int64) (x8 : Int32) (σ : hh_S) (H : Heap) (locs : List Loc) (ls : Array Slot), hh_lp2 (wq_X9_turnShares_104 K4 K63 x1 x2 x3 x4 x5 Q) n x6 x8 σ → hh_H D hh_cl hm_Y cy ad s.heap σ H locs → lv_has ls 9 [(0, .ref (ad 0)), (1, .int x1), (2, .int x2), (3, .int x3), (4, .int x4), (5, .int x5), (6, .long x6), (8, .int x8)] → W p l e (headSpec wsX9_turnShares rm_X9_turnShares).room s m args below meth c H locs 0 0 (MQ below (va_Qi Q (hh_B D hh_cl hm_Y cy ad) (hh_A hm_Y ad)) args s 0 0 (hh_A hm_Y ad)) (F0 m 104 ls []) := by
    intro x1 x2 x3 x4 x5 K4 hK4 K63 hK63 n
    induction n with
    | zero => intro x6 x8 σ H locs ls hq h hl; exact hq.elim
    | succ n ih =>
      intro x6 x8 σ H locs ls hq h hl
      have hq : wq_X9_turnShares_104 K4 K63 x1 x2 x3 x4 x5 Q (hh_lp2 (wq_X9_turnShares_104 K4 K63 x1 x2 x3 x4 x5 Q) n) x6 x8 σ := hq
      unfold wq_X9_turnShares_104 at hq
      refine lv_iload hx hb1 dX9_turnShares_104 (lv_at hl 7 rfl) ?_
      refine lv_iload_n hx hb1 dX9_turnShares_106 rfl (lv_at hl 3 rfl) ?_
      refine lv_icmp_ge (tgt := 146) hx hb1 dX9_turnShares_107 (by decide) (fun c34 => ?_) (fun c34 => ?_)
      · have hq := hq.1 c34
        refine lv_iconst (v := (0 : Int32)) hx hb1 dX9_turnShares_146 (by decide) ?_
        refine lv_istore (lv' := [(8, .int (0 : Int32)), (0, .ref (ad 0)), (1, .int x1), (2, .int x2), (3, .int x3), (4, .int x4), (5, .int x5), (6, .long x6)]) hx hb1 dX9_turnShares_147 hl (by decide) rfl (fun ls hl => ?_)
        obtain ⟨n35, hq⟩ := hq
        exact lt_149 x1 x2 x3 x4 x5 x6 K4 hK4 K63 hK63 n35 (0 : Int32) σ _ _ ls hq h (lv_sub hl [1, 2, 3, 4, 5, 6, 7, 0] rfl)
      · have hq := hq.2 c34
        refine lv_lload hx hb1 dX9_turnShares_110 (lv_at hl 6 rfl) ?_
        refine lv_aload_n hx hb1 dX9_turnShares_112 rfl (lv_at hl 0 rfl) ?_
        refine hh_getr X h fm_0_32 in_X9_turnShares_X9 km_0 (by decide) (List.mem_of_getElem? (i := 2) rfl) rfl dX9_turnShares_113 ?_
        refine lv_iload hx hb1 dX9_turnShares_116 (lv_at hl 7 rfl) ?_
        obtain ⟨h36, hq⟩ := hq
        refine hh_ild X h am_25 h36 dX9_turnShares_118 ?_
        refine lv_i2l (v := ((hh_rA σ 25 x8)).toInt64) hx hb1 dX9_turnShares_119 rfl ?_
        refine lv_aload_n hx hb1 dX9_turnShares_120 rfl (lv_at hl 0 rfl) ?_
        refine hh_getr X h fm_0_24 in_X9_turnShares_X9 km_0 (by decide) (List.mem_of_getElem? (i := 6) rfl) rfl dX9_turnShares_121 ?_
        refine lv_iload hx hb1 dX9_turnShares_124 (lv_at hl 4 rfl) ?_
        refine lv_iload_n hx hb1 dX9_turnShares_126 rfl (lv_at hl 3 rfl) ?_
        refine lv_iload hx hb1 dX9_turnShares_127 (lv_at hl 7 rfl) ?_
        refine lv_iload hx hb1 dX9_turnShares_129 (lv_at hl 5 rfl) ?_
        refine hh_kI h (va_runS (As := [.int x4, .int x3, .int x8, .int x5]) (rest := [.ref (ad 18), .long ((hh_rA σ 25 x8).toInt64), .long x6]) X.1 (ad_X9_at (D := D) l J x4 x3 x8 x5 σ _ hq) (va_cwS 4 X.1.2.2.2.2 gX9_turnShares_X9_at rfl rfl rfl nd_X9_at ⟨Nat.le_of_ble_eq_true rfl, Nat.le_of_ble_eq_true rfl⟩) (hh_preS X h [.int x4, .int x3, .int x8, .int x5]) rfl rfl hl.1 rfl (lv_room (Nat.le_of_ble_eq_true rfl)) dX9_turnShares_131 ⟨Nat.le_of_ble_eq_true rfl, Nat.le_of_ble_eq_true rfl⟩) (fun r37 σ38 H locs hq h => ?_)
        obtain ⟨h39, hq⟩ := hq
        refine hh_ild X h am_18 h39 dX9_turnShares_134 ?_
        refine lv_i2l (v := ((hh_rA σ38 18 r37)).toInt64) hx hb1 dX9_turnShares_135 rfl ?_
        refine lv_lmul hx hb1 dX9_turnShares_136 ?_
        refine lv_ladd hx hb1 dX9_turnShares_137 ?_
        refine lv_topl (fun v40 ev40 => ?_)
        have hq := hq v40 ev40
        refine lv_lstore (lv' := [(6, .long v40), (0, .ref (ad 0)), (1, .int x1), (2, .int x2), (3, .int x3), (4, .int x4), (5, .int x5), (8, .int x8)]) hx hb1 dX9_turnShares_138 hl (by decide) rfl (fun ls hl => ?_)
        refine lv_iinc (v := (x8 + (1 : Int32))) (lv' := [(8, .int (x8 + (1 : Int32))), (6, .long v40), (0, .ref (ad 0)), (1, .int x1), (2, .int x2), (3, .int x3), (4, .int x4), (5, .int x5)]) hx hb1 dX9_turnShares_140 hl (k := 7) rfl rfl (by decide) rfl (fun ls hl => ?_)
        refine lv_goto (tgt := 104) hx hb1 dX9_turnShares_143 (by decide) ?_
        exact ih v40 (x8 + (1 : Int32)) σ38 _ _ ls hq h (lv_sub hl [2, 3, 4, 5, 6, 7, 1, 0] rfl)
  have lt_63 : ∀ (x1 : Int32) (x2 : Int32) (x3 : Int32) (K4 : Int32 → Int32 → hh_S → Prop) (hK4 : ∀ (x1 : Int32) (x2 : Int32) (σ : hh_S) (H : Heap) (locs : List Loc) (ls : Array Slot), K4 x1 x2 σ → hh_H D hh_cl hm_Y cy ad s.heap σ H locs → lv_has ls 9 [(0, .ref (ad 0)), (1, .int x1), (2, .int x2)] → W p l e (headSpec wsX9_turnShares rm_X9_turnShares).room s m args below meth c H locs 0 0 (MQ below (va_Qi Q (hh_B D hh_cl hm_Y cy ad) (hh_A hm_Y ad)) args s 0 0 (hh_A hm_Y ad)) (F0 m 4 ls [])) (n : Nat) (x4 : Int32) (σ : hh_S) (H : Heap) (locs : List Loc) (ls : Array Slot), hh_lp1 (wq_X9_turnShares_63 K4 x1 x2 x3 Q) n x4 σ → hh_H D hh_cl hm_Y cy ad s.heap σ H locs → lv_has ls 9 [(0, .ref (ad 0)), (1, .int x1), (2, .int x2), (3, .int x3), (4, .int x4)] → W p l e (headSpec wsX9_turnShares rm_X9_turnShares).room s m args below meth c H locs 0 0 (MQ below (va_Qi Q (hh_B D hh_cl hm_Y cy ad) (hh_A hm_Y ad)) args s 0 0 (hh_A hm_Y ad)) (F0 m 63 ls []) := by
    intro x1 x2 x3 K4 hK4 n
    induction n with
    | zero => intro x4 σ H locs ls hq h hl; exact hq.elim
    | succ n ih =>
      intro x4 σ H locs ls hq h hl
      have hq : wq_X9_turnShares_63 K4 x1 x2 x3 Q (hh_lp1 (wq_X9_turnShares_63 K4 x1 x2 x3 Q) n) x4 σ := hq
      unfold wq_X9_turnShares_63 at hq
      refine lv_iload hx hb1 dX9_turnShares_63 (lv_at hl 4 rfl) ?_
      refine lv_aload_n hx hb1 dX9_turnShares_65 rfl (lv_at hl 0 rfl) ?_
      refine hh_geti X h (q := 13) fm_0_13 rfl in_X9_turnShares_X9 km_0 (by decide) (List.mem_of_getElem? (i := 4) rfl) rfl dX9_turnShares_66 ?_
      refine lv_icmp_ge (tgt := 214) hx hb1 dX9_turnShares_69 (by decide) (fun c41 => ?_) (fun c41 => ?_)
      · have hq := hq.1 c41
        refine lv_iconst (v := (0 : Int32)) hx hb1 dX9_turnShares_214 (by decide) ?_
        refine lv_istore (lv' := [(4, .int (0 : Int32)), (0, .ref (ad 0)), (1, .int x1), (2, .int x2), (3, .int x3)]) hx hb1 dX9_turnShares_215 hl (by decide) rfl (fun ls hl => ?_)
        obtain ⟨n42, hq⟩ := hq
        exact lt_217 x2 x3 K4 hK4 n42 x1 (0 : Int32) σ _ _ ls hq h (lv_sub hl [1, 2, 3, 4, 0] rfl)
      · have hq := hq.2 c41
        refine lv_aload_n hx hb1 dX9_turnShares_72 rfl (lv_at hl 0 rfl) ?_
        refine lv_iload hx hb1 dX9_turnShares_73 (lv_at hl 4 rfl) ?_
        refine lv_iload_n hx hb1 dX9_turnShares_75 rfl (lv_at hl 2 rfl) ?_
        refine hh_kI h (va_runV (As := [.int x4, .int x2]) (rest := []) X.1 (ad_X9_counts (D := D) l J x4 x2 σ _ hq) (cwV 2 X.1.2.2.2.2 gX9_turnShares_X9_counts rfl rfl rfl nd_X9_counts ⟨Nat.le_of_ble_eq_true rfl, Nat.le_of_ble_eq_true rfl⟩) (hh_preV X h fm_0_0 km_0 [.int x4, .int x2]) rfl rfl hl.1 rfl (lv_room (Nat.le_of_ble_eq_true rfl)) dX9_turnShares_76 ⟨Nat.le_of_ble_eq_true rfl, Nat.le_of_ble_eq_true rfl⟩) (fun r43 σ44 H locs hq h => ?_)
        refine lv_if_eq (tgt := 208) hx hb1 dX9_turnShares_79 (by decide) (fun c45 => ?_) (fun c45 => ?_)
        · have hq := hq.1 c45
          refine lv_iinc (v := (x4 + (1 : Int32))) (lv' := [(4, .int (x4 + (1 : Int32))), (0, .ref (ad 0)), (1, .int x1), (2, .int x2), (3, .int x3)]) hx hb1 dX9_turnShares_208 hl (k := 4) rfl rfl (by decide) rfl (fun ls hl => ?_)
          refine lv_goto (tgt := 63) hx hb1 dX9_turnShares_211 (by decide) ?_
          exact ih (x4 + (1 : Int32)) σ44 _ _ ls hq h (lv_sub hl [1, 2, 3, 4, 0] rfl)
        · have hq := hq.2 c45
          refine lv_aload_n hx hb1 dX9_turnShares_82 rfl (lv_at hl 0 rfl) ?_
          refine hh_getr X h fm_0_16 in_X9_turnShares_X9 km_0 (by decide) (List.mem_of_getElem? (i := 5) rfl) rfl dX9_turnShares_83 ?_
          refine lv_bipush (v := (24 : Int32)) hx hb1 dX9_turnShares_86 (by decide) ?_
          refine lv_iload hx hb1 dX9_turnShares_88 (lv_at hl 4 rfl) ?_
          refine lv_imul hx hb1 dX9_turnShares_90 ?_
          refine lv_iload_n hx hb1 dX9_turnShares_91 rfl (lv_at hl 2 rfl) ?_
          refine lv_iadd hx hb1 dX9_turnShares_92 ?_
          obtain ⟨h46, hq⟩ := hq
          refine hh_ild X h am_13 h46 dX9_turnShares_93 ?_
          refine lv_iconst (v := (1 : Int32)) hx hb1 dX9_turnShares_94 (by decide) ?_
          refine lv_isub hx hb1 dX9_turnShares_95 ?_
          refine lv_topi (fun v47 ev47 => ?_)
          have hq := hq v47 ev47
          refine lv_istore (lv' := [(5, .int v47), (0, .ref (ad 0)), (1, .int x1), (2, .int x2), (3, .int x3), (4, .int x4)]) hx hb1 dX9_turnShares_96 hl (by decide) rfl (fun ls hl => ?_)
          refine lv_lconst (v := (0 : Int64)) hx hb1 dX9_turnShares_98 (by decide) ?_
          refine lv_lstore (lv' := [(6, .long (0 : Int64)), (5, .int v47), (0, .ref (ad 0)), (1, .int x1), (2, .int x2), (3, .int x3), (4, .int x4)]) hx hb1 dX9_turnShares_99 hl (by decide) rfl (fun ls hl => ?_)
          refine lv_iconst (v := (0 : Int32)) hx hb1 dX9_turnShares_101 (by decide) ?_
          refine lv_istore (lv' := [(8, .int (0 : Int32)), (6, .long (0 : Int64)), (5, .int v47), (0, .ref (ad 0)), (1, .int x1), (2, .int x2), (3, .int x3), (4, .int x4)]) hx hb1 dX9_turnShares_102 hl (by decide) rfl (fun ls hl => ?_)
          obtain ⟨n48, hq⟩ := hq
          exact lt_104 x1 x2 x3 x4 v47 K4 hK4 (hh_lp1 (wq_X9_turnShares_63 K4 x1 x2 x3 Q) n) ih n48 (0 : Int64) (0 : Int32) σ44 _ _ ls hq h (lv_sub hl [3, 4, 5, 6, 7, 2, 1, 0] rfl)
  have lt_37 : ∀ (x1 : Int32) (x2 : Int32) (x3 : Int32) (K4 : Int32 → Int32 → hh_S → Prop) (hK4 : ∀ (x1 : Int32) (x2 : Int32) (σ : hh_S) (H : Heap) (locs : List Loc) (ls : Array Slot), K4 x1 x2 σ → hh_H D hh_cl hm_Y cy ad s.heap σ H locs → lv_has ls 9 [(0, .ref (ad 0)), (1, .int x1), (2, .int x2)] → W p l e (headSpec wsX9_turnShares rm_X9_turnShares).room s m args below meth c H locs 0 0 (MQ below (va_Qi Q (hh_B D hh_cl hm_Y cy ad) (hh_A hm_Y ad)) args s 0 0 (hh_A hm_Y ad)) (F0 m 4 ls [])) (n : Nat) (x4 : Int32) (σ : hh_S) (H : Heap) (locs : List Loc) (ls : Array Slot), hh_lp1 (wq_X9_turnShares_37 K4 x1 x2 x3 Q) n x4 σ → hh_H D hh_cl hm_Y cy ad s.heap σ H locs → lv_has ls 9 [(0, .ref (ad 0)), (1, .int x1), (2, .int x2), (3, .int x3), (4, .int x4)] → W p l e (headSpec wsX9_turnShares rm_X9_turnShares).room s m args below meth c H locs 0 0 (MQ below (va_Qi Q (hh_B D hh_cl hm_Y cy ad) (hh_A hm_Y ad)) args s 0 0 (hh_A hm_Y ad)) (F0 m 37 ls []) := by
    intro x1 x2 x3 K4 hK4 n
    induction n with
    | zero => intro x4 σ H locs ls hq h hl; exact hq.elim
    | succ n ih =>
      intro x4 σ H locs ls hq h hl
      have hq : wq_X9_turnShares_37 K4 x1 x2 x3 Q (hh_lp1 (wq_X9_turnShares_37 K4 x1 x2 x3 Q) n) x4 σ := hq
      unfold wq_X9_turnShares_37 at hq
      refine lv_iload hx hb1 dX9_turnShares_37 (lv_at hl 4 rfl) ?_
      refine lv_iload_n hx hb1 dX9_turnShares_39 rfl (lv_at hl 3 rfl) ?_
      refine lv_icmp_ge (tgt := 60) hx hb1 dX9_turnShares_40 (by decide) (fun c49 => ?_) (fun c49 => ?_)
      · have hq := hq.1 c49
        refine lv_iconst (v := (0 : Int32)) hx hb1 dX9_turnShares_60 (by decide) ?_
        refine lv_istore (lv' := [(4, .int (0 : Int32)), (0, .ref (ad 0)), (1, .int x1), (2, .int x2), (3, .int x3)]) hx hb1 dX9_turnShares_61 hl (by decide) rfl (fun ls hl => ?_)
        obtain ⟨n50, hq⟩ := hq
        exact lt_63 x1 x2 x3 K4 hK4 n50 (0 : Int32) σ _ _ ls hq h (lv_sub hl [1, 2, 3, 4, 0] rfl)
      · have hq := hq.2 c49
        refine lv_aload_n hx hb1 dX9_turnShares_43 rfl (lv_at hl 0 rfl) ?_
        refine hh_getr X h fm_0_32 in_X9_turnShares_X9 km_0 (by decide) (List.mem_of_getElem? (i := 2) rfl) rfl dX9_turnShares_44 ?_
        refine lv_iload hx hb1 dX9_turnShares_47 (lv_at hl 4 rfl) ?_
        refine lv_ldc (v := (1000000 : Int32)) hx hb1 X.1.2.2.2.1 (X.1.2.2.2.2 _ (List.mem_of_getElem? (i := 3) rfl)) dX9_turnShares_49 ?_
        refine lv_iload_n hx hb1 dX9_turnShares_51 rfl (lv_at hl 3 rfl) ?_
        obtain ⟨h51, hq⟩ := hq
        refine lv_idiv hx hb1 dX9_turnShares_52 h51 ?_
        obtain ⟨h52, hq⟩ := hq
        refine hh_ist X h am_25 h52 dX9_turnShares_53 (fun σ53 H locs eσ53 h => ?_)
        have hq := hq σ53 eσ53
        refine lv_iinc (v := (x4 + (1 : Int32))) (lv' := [(4, .int (x4 + (1 : Int32))), (0, .ref (ad 0)), (1, .int x1), (2, .int x2), (3, .int x3)]) hx hb1 dX9_turnShares_54 hl (k := 4) rfl rfl (by decide) rfl (fun ls hl => ?_)
        refine lv_goto (tgt := 37) hx hb1 dX9_turnShares_57 (by decide) ?_
        exact ih (x4 + (1 : Int32)) σ53 _ _ ls hq h (lv_sub hl [1, 2, 3, 4, 0] rfl)
  have lt_4 : ∀ (n : Nat) (x1 : Int32) (x2 : Int32) (σ : hh_S) (H : Heap) (locs : List Loc) (ls : Array Slot), hh_lp2 (wq_X9_turnShares_4 Q) n x1 x2 σ → hh_H D hh_cl hm_Y cy ad s.heap σ H locs → lv_has ls 9 [(0, .ref (ad 0)), (1, .int x1), (2, .int x2)] → W p l e (headSpec wsX9_turnShares rm_X9_turnShares).room s m args below meth c H locs 0 0 (MQ below (va_Qi Q (hh_B D hh_cl hm_Y cy ad) (hh_A hm_Y ad)) args s 0 0 (hh_A hm_Y ad)) (F0 m 4 ls []) := by
    intro n
    induction n with
    | zero => intro x1 x2 σ H locs ls hq h hl; exact hq.elim
    | succ n ih =>
      intro x1 x2 σ H locs ls hq h hl
      have hq : wq_X9_turnShares_4 Q (hh_lp2 (wq_X9_turnShares_4 Q) n) x1 x2 σ := hq
      unfold wq_X9_turnShares_4 at hq
      refine lv_iload_n hx hb1 dX9_turnShares_4 rfl (lv_at hl 2 rfl) ?_
      refine lv_aload_n hx hb1 dX9_turnShares_5 rfl (lv_at hl 0 rfl) ?_
      refine hh_geti X h (q := 7) fm_0_7 rfl in_X9_turnShares_X9 km_0 (by decide) (List.mem_of_getElem? (i := 1) rfl) rfl dX9_turnShares_6 ?_
      refine lv_icmp_ge (tgt := 330) hx hb1 dX9_turnShares_9 (by decide) (fun c54 => ?_) (fun c54 => ?_)
      · have hq := hq.1 c54
        refine lv_iload_n hx hb1 dX9_turnShares_330 rfl (lv_at hl 1 rfl) ?_
        exact hh_iret X h hr hlocks hq dX9_turnShares_331
      · have hq := hq.2 c54
        refine lv_aload_n hx hb1 dX9_turnShares_12 rfl (lv_at hl 0 rfl) ?_
        refine lv_iload_n hx hb1 dX9_turnShares_13 rfl (lv_at hl 2 rfl) ?_
        refine hh_kI h (va_runV (As := [.int x2]) (rest := []) X.1 (ad_X9_labelsOf (D := D) l J x2 σ _ hq) (cwV 1 X.1.2.2.2.2 gX9_turnShares_X9_labelsOf rfl rfl rfl nd_X9_labelsOf ⟨Nat.le_of_ble_eq_true rfl, Nat.le_of_ble_eq_true rfl⟩) (hh_preV X h fm_0_0 km_0 [.int x2]) rfl rfl hl.1 rfl (lv_room (Nat.le_of_ble_eq_true rfl)) dX9_turnShares_14 ⟨Nat.le_of_ble_eq_true rfl, Nat.le_of_ble_eq_true rfl⟩) (fun r55 σ56 H locs hq h => ?_)
        refine lv_istore_n (lv' := [(3, .int r55), (0, .ref (ad 0)), (1, .int x1), (2, .int x2)]) hx hb1 dX9_turnShares_17 rfl hl (by decide) rfl (fun ls hl => ?_)
        refine lv_aload_n hx hb1 dX9_turnShares_18 rfl (lv_at hl 1 rfl) ?_
        refine lv_iload_n hx hb1 dX9_turnShares_19 rfl (lv_at hl 3 rfl) ?_
        refine hh_kI h (va_runV (As := [.int x2]) (rest := []) X.1 (ad_X9_fixed (D := D) l J x2 σ56 _ hq) (cwV 1 X.1.2.2.2.2 gX9_turnShares_X9_fixed rfl rfl rfl nd_X9_fixed ⟨Nat.le_of_ble_eq_true rfl, Nat.le_of_ble_eq_true rfl⟩) (hh_preV X h fm_0_0 km_0 [.int x2]) rfl rfl hl.1 rfl (lv_room (Nat.le_of_ble_eq_true rfl)) dX9_turnShares_20 ⟨Nat.le_of_ble_eq_true rfl, Nat.le_of_ble_eq_true rfl⟩) (fun r57 σ58 H locs hq h => ?_)
        refine lv_if_ge (tgt := 324) hx hb1 dX9_turnShares_23 (by decide) (fun c59 => ?_) (fun c59 => ?_)
        · have hq := hq.1 c59
          refine lv_iinc (v := (x2 + (1 : Int32))) (lv' := [(2, .int (x2 + (1 : Int32))), (3, .int r55), (0, .ref (ad 0)), (1, .int x1)]) hx hb1 dX9_turnShares_324 hl (k := 3) rfl rfl (by decide) rfl (fun ls hl => ?_)
          refine lv_goto (tgt := 4) hx hb1 dX9_turnShares_327 (by decide) ?_
          exact ih x1 (x2 + (1 : Int32)) σ58 _ _ ls hq h (lv_sub hl [2, 3, 0] rfl)
        · have hq := hq.2 c59
          refine lv_aload_n hx hb1 dX9_turnShares_26 rfl (lv_at hl 1 rfl) ?_
          refine lv_iload_n hx hb1 dX9_turnShares_27 rfl (lv_at hl 3 rfl) ?_
          refine hh_kI h (va_runV (As := [.int x2]) (rest := []) X.1 (ad_X9_countOf (D := D) l J x2 σ58 _ hq) (cwV 1 X.1.2.2.2.2 gX9_turnShares_X9_countOf rfl rfl rfl nd_X9_countOf ⟨Nat.le_of_ble_eq_true rfl, Nat.le_of_ble_eq_true rfl⟩) (hh_preV X h fm_0_0 km_0 [.int x2]) rfl rfl hl.1 rfl (lv_room (Nat.le_of_ble_eq_true rfl)) dX9_turnShares_28 ⟨Nat.le_of_ble_eq_true rfl, Nat.le_of_ble_eq_true rfl⟩) (fun r60 σ61 H locs hq h => ?_)
          refine lv_if_le (tgt := 324) hx hb1 dX9_turnShares_31 (by decide) (fun c62 => ?_) (fun c62 => ?_)
          · have hq := hq.1 c62
            refine lv_iinc (v := (x2 + (1 : Int32))) (lv' := [(2, .int (x2 + (1 : Int32))), (3, .int r55), (0, .ref (ad 0)), (1, .int x1)]) hx hb1 dX9_turnShares_324 hl (k := 3) rfl rfl (by decide) rfl (fun ls hl => ?_)
            refine lv_goto (tgt := 4) hx hb1 dX9_turnShares_327 (by decide) ?_
            exact ih x1 (x2 + (1 : Int32)) σ61 _ _ ls hq h (lv_sub hl [2, 3, 0] rfl)
          · have hq := hq.2 c62
            refine lv_iconst (v := (0 : Int32)) hx hb1 dX9_turnShares_34 (by decide) ?_
            refine lv_istore (lv' := [(4, .int (0 : Int32)), (3, .int r55), (0, .ref (ad 0)), (1, .int x1), (2, .int x2)]) hx hb1 dX9_turnShares_35 hl (by decide) rfl (fun ls hl => ?_)
            obtain ⟨n63, hq⟩ := hq
            exact lt_37 x1 x2 r55 (hh_lp2 (wq_X9_turnShares_4 Q) n) ih n63 (0 : Int32) σ61 _ _ ls hq h (lv_sub hl [2, 3, 4, 1, 0] rfl)
  subst hargs
  refine hh_entry (vs := [.ref (ad 0)]) (Nat.le_of_ble_eq_true rfl) (fun ls hl => ?_)
  have hl : lv_has ls 9 [(0, .ref (ad 0))] := hl
  have hq : wp_X9_turnShares σ Q := hq
  unfold wp_X9_turnShares at hq
  refine lv_iconst (v := (0 : Int32)) hx hb1 dX9_turnShares_0 (by decide) ?_
  refine lv_istore_n (lv' := [(1, .int (0 : Int32)), (0, .ref (ad 0))]) hx hb1 dX9_turnShares_1 rfl hl (by decide) rfl (fun ls hl => ?_)
  refine lv_iconst (v := (0 : Int32)) hx hb1 dX9_turnShares_2 (by decide) ?_
  refine lv_istore_n (lv' := [(2, .int (0 : Int32)), (1, .int (0 : Int32)), (0, .ref (ad 0))]) hx hb1 dX9_turnShares_3 rfl hl (by decide) rfl (fun ls hl => ?_)
  obtain ⟨n64, hq⟩ := hq
  exact lt_4 n64 (0 : Int32) (0 : Int32) σ _ _ ls hq h (lv_sub hl [2, 1, 0] rfl)
theorem nd_X9_joinAll : yX9_joinAll.cls = RX9 ∧ yX9_joinAll.cls ≠ "java/lang/invoke/MethodHandle" ∧ yX9_joinAll.cls ≠ "java/lang/invoke/VarHandle" ∧ (parseMethodDescriptor yX9_joinAll.desc).map (fun d => d.parameters.length) = some 0 := by decide +kernel
abbrev rm_X9_joinAll : Room := { frames := 3, cells := 0, slots := 0, locals := 76 }
def wq_X9_joinAll_8 (Q : Int32 → hh_S → Prop) (K8 : Int32 → Int32 → hh_S → Prop) (x1 : Int32) (x2 : Int32) (σ : hh_S) : Prop := ((¬ x2 = 0 → ((x2 = 0 → (Q (x1 - (100 : Int32)) σ)) ∧ (¬ x2 = 0 → (Q x1 σ)))) ∧ (x2 = 0 → (((hh_rA σ 14 (2 : Int32)) ≤ x1 → ((x2 = 0 → (Q (x1 - (100 : Int32)) σ)) ∧ (¬ x2 = 0 → (Q x1 σ)))) ∧ (¬ (hh_rA σ 14 (2 : Int32)) ≤ x1 → (wp_X9_layTables σ (fun (σ6 : hh_S) => (wp_X9_turnShares σ6 (fun (r7 : Int32) (σ8 : hh_S) => (((hh_rA σ8 14 (1 : Int32)) < r7 → (K8 (x1 + (1 : Int32)) (0 : Int32) σ8)) ∧ (¬ (hh_rA σ8 14 (1 : Int32)) < r7 → (K8 (x1 + (1 : Int32)) (1 : Int32) σ8)))))))))))
def wp_X9_joinAll (σ : hh_S) (Q : Int32 → hh_S → Prop) : Prop := (wp_X9_beginShares σ (fun (σ11 : hh_S) => (∃ n : Nat, hh_lp2 (wq_X9_joinAll_8 Q) n (0 : Int32) (0 : Int32) σ11)))
theorem in_X9_joinAll_X9 : ∀ w ∈ u_ws RX9 TX9 37, w ∈ wsX9_joinAll := fun w h => List.mem_cons_of_mem _ (List.mem_append_right _ h)
set_option maxHeartbeats 4000000 in
set_option maxRecDepth 100000 in
theorem ad_X9_joinAll {D : va_G} (l : Launch) {cy : Nat → ClassId} {ad : Nat → Nat} (J : hh_J hm_Y ad) (σ : hh_S) (Q : Int32 → hh_S → Prop) (hq : wp_X9_joinAll σ Q) : Met l yX9_joinAll wsX9_joinAll rm_X9_joinAll (va_Pc [.ref (ad 0)] (hh_B D hh_cl hm_Y cy ad σ)) (va_Qi Q (hh_B D hh_cl hm_Y cy ad) (hh_A hm_Y ad)) 0 0 (hh_A hm_Y ad) := by
  refine Met.ofW (cc := cX9_joinAll) (maxL := 3) (ret := (some .int)) (by decide) rfl ?_
  intro p e s m args below meth c s₁ B hml hv
  obtain ⟨hargs, hP0, hK0⟩ := hv
  have hr := B.returns
  have hlocks := B.notSynchronized
  have X : hh_X p m c cX9_joinAll 3 s args wsX9_joinAll RX9 D hh_cl hm_Y cy ad := ⟨⟨B.exec, B.bytes, hml, findClass_of_methodNamed B.named, atoms_spec (ws := wsX9_joinAll) B.pre⟩, hK0, J⟩
  have hx := X.1.1
  have hb1 := X.1.2.1
  have h : hh_H D hh_cl hm_Y cy ad s.heap σ s.heap [] := ⟨hP0, va_S.rf⟩
  have lt_8 : ∀ (n : Nat) (x1 : Int32) (x2 : Int32) (σ : hh_S) (H : Heap) (locs : List Loc) (ls : Array Slot), hh_lp2 (wq_X9_joinAll_8 Q) n x1 x2 σ → hh_H D hh_cl hm_Y cy ad s.heap σ H locs → lv_has ls 3 [(0, .ref (ad 0)), (1, .int x1), (2, .int x2)] → W p l e (headSpec wsX9_joinAll rm_X9_joinAll).room s m args below meth c H locs 0 0 (MQ below (va_Qi Q (hh_B D hh_cl hm_Y cy ad) (hh_A hm_Y ad)) args s 0 0 (hh_A hm_Y ad)) (F0 m 8 ls []) := by
    intro n
    induction n with
    | zero => intro x1 x2 σ H locs ls hq h hl; exact hq.elim
    | succ n ih =>
      intro x1 x2 σ H locs ls hq h hl
      have hq : wq_X9_joinAll_8 Q (hh_lp2 (wq_X9_joinAll_8 Q) n) x1 x2 σ := hq
      unfold wq_X9_joinAll_8 at hq
      refine lv_iload_n hx hb1 dX9_joinAll_8 rfl (lv_at hl 2 rfl) ?_
      refine lv_if_ne (tgt := 51) hx hb1 dX9_joinAll_9 (by decide) (fun c1 => ?_) (fun c1 => ?_)
      · have hq := hq.1 c1
        refine lv_iload_n hx hb1 dX9_joinAll_51 rfl (lv_at hl 2 rfl) ?_
        refine lv_if_eq (tgt := 59) hx hb1 dX9_joinAll_52 (by decide) (fun c2 => ?_) (fun c2 => ?_)
        · have hq := hq.1 c2
          refine lv_iload_n hx hb1 dX9_joinAll_59 rfl (lv_at hl 1 rfl) ?_
          refine lv_bipush (v := (100 : Int32)) hx hb1 dX9_joinAll_60 (by decide) ?_
          refine lv_isub hx hb1 dX9_joinAll_62 ?_
          exact hh_iret X h hr hlocks hq dX9_joinAll_63
        · have hq := hq.2 c2
          refine lv_iload_n hx hb1 dX9_joinAll_55 rfl (lv_at hl 1 rfl) ?_
          refine lv_goto (tgt := 63) hx hb1 dX9_joinAll_56 (by decide) ?_
          exact hh_iret X h hr hlocks hq dX9_joinAll_63
      · have hq := hq.2 c1
        refine lv_iload_n hx hb1 dX9_joinAll_12 rfl (lv_at hl 1 rfl) ?_
        refine lv_aload_n hx hb1 dX9_joinAll_13 rfl (lv_at hl 0 rfl) ?_
        refine hh_getr X h fm_0_17 in_X9_joinAll_X9 km_0 (by decide) (List.mem_of_getElem? (i := 1) rfl) rfl dX9_joinAll_14 ?_
        refine lv_iconst (v := (2 : Int32)) hx hb1 dX9_joinAll_17 (by decide) ?_
        refine hh_ild X h am_14 (vp_in_iff.mpr (by decide)) dX9_joinAll_18 ?_
        refine lv_icmp_ge (tgt := 51) hx hb1 dX9_joinAll_19 (by decide) (fun c3 => ?_) (fun c3 => ?_)
        · have hq := hq.1 c3
          refine lv_iload_n hx hb1 dX9_joinAll_51 rfl (lv_at hl 2 rfl) ?_
          refine lv_if_eq (tgt := 59) hx hb1 dX9_joinAll_52 (by decide) (fun c4 => ?_) (fun c4 => ?_)
          · have hq := hq.1 c4
            refine lv_iload_n hx hb1 dX9_joinAll_59 rfl (lv_at hl 1 rfl) ?_
            refine lv_bipush (v := (100 : Int32)) hx hb1 dX9_joinAll_60 (by decide) ?_
            refine lv_isub hx hb1 dX9_joinAll_62 ?_
            exact hh_iret X h hr hlocks hq dX9_joinAll_63
          · have hq := hq.2 c4
            refine lv_iload_n hx hb1 dX9_joinAll_55 rfl (lv_at hl 1 rfl) ?_
            refine lv_goto (tgt := 63) hx hb1 dX9_joinAll_56 (by decide) ?_
            exact hh_iret X h hr hlocks hq dX9_joinAll_63
        · have hq := hq.2 c3
          refine lv_aload_n hx hb1 dX9_joinAll_22 rfl (lv_at hl 0 rfl) ?_
          refine hh_kV h (va_runV (As := []) (rest := []) X.1 (ad_X9_layTables (D := D) l J σ _ hq) (cwV 0 X.1.2.2.2.2 gX9_joinAll_X9_layTables rfl rfl rfl nd_X9_layTables ⟨Nat.le_of_ble_eq_true rfl, Nat.le_of_ble_eq_true rfl⟩) (hh_preV X h fm_0_0 km_0 []) rfl rfl hl.1 rfl (lv_room (Nat.le_of_ble_eq_true rfl)) dX9_joinAll_23 ⟨Nat.le_of_ble_eq_true rfl, Nat.le_of_ble_eq_true rfl⟩) (fun σ6 H locs hq h => ?_)
          refine lv_aload_n hx hb1 dX9_joinAll_26 rfl (lv_at hl 0 rfl) ?_
          refine hh_kI h (va_runV (As := []) (rest := []) X.1 (ad_X9_turnShares (D := D) l J σ6 _ hq) (cwV 0 X.1.2.2.2.2 gX9_joinAll_X9_turnShares rfl rfl rfl nd_X9_turnShares ⟨Nat.le_of_ble_eq_true rfl, Nat.le_of_ble_eq_true rfl⟩) (hh_preV X h fm_0_0 km_0 []) rfl rfl hl.1 rfl (lv_room (Nat.le_of_ble_eq_true rfl)) dX9_joinAll_27 ⟨Nat.le_of_ble_eq_true rfl, Nat.le_of_ble_eq_true rfl⟩) (fun r7 σ8 H locs hq h => ?_)
          refine lv_aload_n hx hb1 dX9_joinAll_30 rfl (lv_at hl 0 rfl) ?_
          refine hh_getr X h fm_0_17 in_X9_joinAll_X9 km_0 (by decide) (List.mem_of_getElem? (i := 1) rfl) rfl dX9_joinAll_31 ?_
          refine lv_iconst (v := (1 : Int32)) hx hb1 dX9_joinAll_34 (by decide) ?_
          refine hh_ild X h am_14 (vp_in_iff.mpr (by decide)) dX9_joinAll_35 ?_
          refine lv_icmp_gt (tgt := 43) hx hb1 dX9_joinAll_36 (by decide) (fun c9 => ?_) (fun c9 => ?_)
          · have hq := hq.1 c9
            refine lv_iconst (v := (0 : Int32)) hx hb1 dX9_joinAll_43 (by decide) ?_
            refine lv_istore_n (lv' := [(2, .int (0 : Int32)), (0, .ref (ad 0)), (1, .int x1)]) hx hb1 dX9_joinAll_44 rfl hl (by decide) rfl (fun ls hl => ?_)
            refine lv_iinc (v := (x1 + (1 : Int32))) (lv' := [(1, .int (x1 + (1 : Int32))), (2, .int (0 : Int32)), (0, .ref (ad 0))]) hx hb1 dX9_joinAll_45 hl (k := 2) rfl rfl (by decide) rfl (fun ls hl => ?_)
            refine lv_goto (tgt := 8) hx hb1 dX9_joinAll_48 (by decide) ?_
            exact ih (x1 + (1 : Int32)) (0 : Int32) σ8 _ _ ls hq h (lv_sub hl [2, 0, 1] rfl)
          · have hq := hq.2 c9
            refine lv_iconst (v := (1 : Int32)) hx hb1 dX9_joinAll_39 (by decide) ?_
            refine lv_goto (tgt := 44) hx hb1 dX9_joinAll_40 (by decide) ?_
            refine lv_istore_n (lv' := [(2, .int (1 : Int32)), (0, .ref (ad 0)), (1, .int x1)]) hx hb1 dX9_joinAll_44 rfl hl (by decide) rfl (fun ls hl => ?_)
            refine lv_iinc (v := (x1 + (1 : Int32))) (lv' := [(1, .int (x1 + (1 : Int32))), (2, .int (1 : Int32)), (0, .ref (ad 0))]) hx hb1 dX9_joinAll_45 hl (k := 2) rfl rfl (by decide) rfl (fun ls hl => ?_)
            refine lv_goto (tgt := 8) hx hb1 dX9_joinAll_48 (by decide) ?_
            exact ih (x1 + (1 : Int32)) (1 : Int32) σ8 _ _ ls hq h (lv_sub hl [2, 0, 1] rfl)
  subst hargs
  refine hh_entry (vs := [.ref (ad 0)]) (Nat.le_of_ble_eq_true rfl) (fun ls hl => ?_)
  have hl : lv_has ls 3 [(0, .ref (ad 0))] := hl
  have hq : wp_X9_joinAll σ Q := hq
  unfold wp_X9_joinAll at hq
  refine lv_aload_n hx hb1 dX9_joinAll_0 rfl (lv_at hl 0 rfl) ?_
  refine hh_kV h (va_runV (As := []) (rest := []) X.1 (ad_X9_beginShares (D := D) l J σ _ hq) (cwV 0 X.1.2.2.2.2 gX9_joinAll_X9_beginShares rfl rfl rfl nd_X9_beginShares ⟨Nat.le_of_ble_eq_true rfl, Nat.le_of_ble_eq_true rfl⟩) (hh_preV X h fm_0_0 km_0 []) rfl rfl hl.1 rfl (lv_room (Nat.le_of_ble_eq_true rfl)) dX9_joinAll_1 ⟨Nat.le_of_ble_eq_true rfl, Nat.le_of_ble_eq_true rfl⟩) (fun σ11 H locs hq h => ?_)
  refine lv_iconst (v := (0 : Int32)) hx hb1 dX9_joinAll_4 (by decide) ?_
  refine lv_istore_n (lv' := [(1, .int (0 : Int32)), (0, .ref (ad 0))]) hx hb1 dX9_joinAll_5 rfl hl (by decide) rfl (fun ls hl => ?_)
  refine lv_iconst (v := (0 : Int32)) hx hb1 dX9_joinAll_6 (by decide) ?_
  refine lv_istore_n (lv' := [(2, .int (0 : Int32)), (1, .int (0 : Int32)), (0, .ref (ad 0))]) hx hb1 dX9_joinAll_7 rfl hl (by decide) rfl (fun ls hl => ?_)
  obtain ⟨n12, hq⟩ := hq
  exact lt_8 n12 (0 : Int32) (0 : Int32) σ11 _ _ ls hq h (lv_sub hl [2, 1, 0] rfl)
theorem nd_X9_join : yX9_join.cls = RX9 ∧ yX9_join.cls ≠ "java/lang/invoke/MethodHandle" ∧ yX9_join.cls ≠ "java/lang/invoke/VarHandle" ∧ (parseMethodDescriptor yX9_join.desc).map (fun d => d.parameters.length) = some 0 := by decide +kernel
abbrev rm_X9_join : Room := { frames := 4, cells := 0, slots := 0, locals := 98 }
def wp_X9_join (σ : hh_S) (Q : Int32 → hh_S → Prop) : Prop := (wp_X9_joinAll σ (fun (r1 : Int32) (σ2 : hh_S) => (∀ σ3 : hh_S, σ3 = hh_uI σ2 20 (1 : Int32) → (∀ σ4 : hh_S, σ4 = hh_uI σ3 21 (hh_I σ3 7) → (∀ σ5 : hh_S, σ5 = hh_uI σ4 22 (hh_I σ4 13) → (Q r1 σ5))))))
theorem in_X9_join_X9 : ∀ w ∈ u_ws RX9 TX9 37, w ∈ wsX9_join := fun w h => List.mem_cons_of_mem _ (List.mem_append_right _ h)
set_option maxHeartbeats 4000000 in
set_option maxRecDepth 100000 in
theorem ad_X9_join {D : va_G} (l : Launch) {cy : Nat → ClassId} {ad : Nat → Nat} (J : hh_J hm_Y ad) (σ : hh_S) (Q : Int32 → hh_S → Prop) (hq : wp_X9_join σ Q) : Met l yX9_join wsX9_join rm_X9_join (va_Pc [.ref (ad 0)] (hh_B D hh_cl hm_Y cy ad σ)) (va_Qi Q (hh_B D hh_cl hm_Y cy ad) (hh_A hm_Y ad)) 0 0 (hh_A hm_Y ad) := by
  refine Met.ofW (cc := cX9_join) (maxL := 2) (ret := (some .int)) (by decide) rfl ?_
  intro p e s m args below meth c s₁ B hml hv
  obtain ⟨hargs, hP0, hK0⟩ := hv
  have hr := B.returns
  have hlocks := B.notSynchronized
  have X : hh_X p m c cX9_join 2 s args wsX9_join RX9 D hh_cl hm_Y cy ad := ⟨⟨B.exec, B.bytes, hml, findClass_of_methodNamed B.named, atoms_spec (ws := wsX9_join) B.pre⟩, hK0, J⟩
  have hx := X.1.1
  have hb1 := X.1.2.1
  have h : hh_H D hh_cl hm_Y cy ad s.heap σ s.heap [] := ⟨hP0, va_S.rf⟩
  subst hargs
  refine hh_entry (vs := [.ref (ad 0)]) (Nat.le_of_ble_eq_true rfl) (fun ls hl => ?_)
  have hl : lv_has ls 2 [(0, .ref (ad 0))] := hl
  have hq : wp_X9_join σ Q := hq
  unfold wp_X9_join at hq
  refine lv_aload_n hx hb1 dX9_join_0 rfl (lv_at hl 0 rfl) ?_
  refine hh_kI h (va_runV (As := []) (rest := []) X.1 (ad_X9_joinAll (D := D) l J σ _ hq) (cwV 0 X.1.2.2.2.2 gX9_join_X9_joinAll rfl rfl rfl nd_X9_joinAll ⟨Nat.le_of_ble_eq_true rfl, Nat.le_of_ble_eq_true rfl⟩) (hh_preV X h fm_0_0 km_0 []) rfl rfl hl.1 rfl (lv_room (Nat.le_of_ble_eq_true rfl)) dX9_join_1 ⟨Nat.le_of_ble_eq_true rfl, Nat.le_of_ble_eq_true rfl⟩) (fun r1 σ2 H locs hq h => ?_)
  refine lv_istore_n (lv' := [(1, .int r1), (0, .ref (ad 0))]) hx hb1 dX9_join_4 rfl hl (by decide) rfl (fun ls hl => ?_)
  refine lv_aload_n hx hb1 dX9_join_5 rfl (lv_at hl 1 rfl) ?_
  refine lv_iconst (v := (1 : Int32)) hx hb1 dX9_join_6 (by decide) ?_
  refine hh_puti X h (q := 20) hm_n fm_0_20 rfl in_X9_join_X9 km_0 tyX9 tyX9_ok nmX9 (by decide) (List.mem_of_getElem? (i := 1) rfl) rfl rfl rfl rfl dX9_join_7 (fun σ3 H locs eσ3 h => ?_)
  have hq := hq σ3 eσ3
  refine lv_aload_n hx hb1 dX9_join_10 rfl (lv_at hl 1 rfl) ?_
  refine lv_aload_n hx hb1 dX9_join_11 rfl (lv_at hl 1 rfl) ?_
  refine hh_geti X h (q := 7) fm_0_7 rfl in_X9_join_X9 km_0 (by decide) (List.mem_of_getElem? (i := 2) rfl) rfl dX9_join_12 ?_
  refine hh_puti X h (q := 21) hm_n fm_0_21 rfl in_X9_join_X9 km_0 tyX9 tyX9_ok nmX9 (by decide) (List.mem_of_getElem? (i := 3) rfl) rfl rfl rfl rfl dX9_join_15 (fun σ4 H locs eσ4 h => ?_)
  have hq := hq σ4 eσ4
  refine lv_aload_n hx hb1 dX9_join_18 rfl (lv_at hl 1 rfl) ?_
  refine lv_aload_n hx hb1 dX9_join_19 rfl (lv_at hl 1 rfl) ?_
  refine hh_geti X h (q := 13) fm_0_13 rfl in_X9_join_X9 km_0 (by decide) (List.mem_of_getElem? (i := 4) rfl) rfl dX9_join_20 ?_
  refine hh_puti X h (q := 22) hm_n fm_0_22 rfl in_X9_join_X9 km_0 tyX9 tyX9_ok nmX9 (by decide) (List.mem_of_getElem? (i := 5) rfl) rfl rfl rfl rfl dX9_join_23 (fun σ5 H locs eσ5 h => ?_)
  have hq := hq σ5 eσ5
  refine lv_iload_n hx hb1 dX9_join_26 rfl (lv_at hl 0 rfl) ?_
  exact hh_iret X h hr hlocks hq dX9_join_27
theorem nd_X9_share : yX9_share.cls = RX9 ∧ yX9_share.cls ≠ "java/lang/invoke/MethodHandle" ∧ yX9_share.cls ≠ "java/lang/invoke/VarHandle" ∧ (parseMethodDescriptor yX9_share.desc).map (fun d => d.parameters.length) = some 2 := by decide +kernel
abbrev rm_X9_share : Room := { frames := 3, cells := 0, slots := 0, locals := 65 }
def wp_X9_share (x1 : Int32) (x2 : Int32) (σ : hh_S) (Q : Int32 → hh_S → Prop) : Prop := (wp_X9_isLabel x1 x2 σ (fun (r1 : Int32) (σ2 : hh_S) => ((r1 = 0 → (Q (-1 : Int32) σ2)) ∧ (¬ r1 = 0 → (wp_X9_shareOf x1 x2 σ2 (fun (r4 : Int32) (σ5 : hh_S) => (Q r4 σ5)))))))
theorem in_X9_share_X9 : ∀ w ∈ u_ws RX9 TX9 37, w ∈ wsX9_share := fun w h => List.mem_cons_of_mem _ (List.mem_append_right _ h)
set_option maxHeartbeats 4000000 in
set_option maxRecDepth 100000 in
theorem ad_X9_share {D : va_G} (l : Launch) {cy : Nat → ClassId} {ad : Nat → Nat} (J : hh_J hm_Y ad) (x1 : Int32) (x2 : Int32) (σ : hh_S) (Q : Int32 → hh_S → Prop) (hq : wp_X9_share x1 x2 σ Q) : Met l yX9_share wsX9_share rm_X9_share (va_Pc [.ref (ad 0), .int x1, .int x2] (hh_B D hh_cl hm_Y cy ad σ)) (va_Qi Q (hh_B D hh_cl hm_Y cy ad) (hh_A hm_Y ad)) 0 0 (hh_A hm_Y ad) := by
  refine Met.ofW (cc := cX9_share) (maxL := 3) (ret := (some .int)) (by decide) rfl ?_
  intro p e s m args below meth c s₁ B hml hv
  obtain ⟨hargs, hP0, hK0⟩ := hv
  have hr := B.returns
  have hlocks := B.notSynchronized
  have X : hh_X p m c cX9_share 3 s args wsX9_share RX9 D hh_cl hm_Y cy ad := ⟨⟨B.exec, B.bytes, hml, findClass_of_methodNamed B.named, atoms_spec (ws := wsX9_share) B.pre⟩, hK0, J⟩
  have hx := X.1.1
  have hb1 := X.1.2.1
  have h : hh_H D hh_cl hm_Y cy ad s.heap σ s.heap [] := ⟨hP0, va_S.rf⟩
  subst hargs
  refine hh_entry (vs := [.ref (ad 0), .int x1, .int x2]) (Nat.le_of_ble_eq_true rfl) (fun ls hl => ?_)
  have hl : lv_has ls 3 [(0, .ref (ad 0)), (1, .int x1), (2, .int x2)] := hl
  have hq : wp_X9_share x1 x2 σ Q := hq
  unfold wp_X9_share at hq
  refine lv_aload_n hx hb1 dX9_share_0 rfl (lv_at hl 0 rfl) ?_
  refine lv_iload_n hx hb1 dX9_share_1 rfl (lv_at hl 1 rfl) ?_
  refine lv_iload_n hx hb1 dX9_share_2 rfl (lv_at hl 2 rfl) ?_
  refine hh_kI h (va_runV (As := [.int x1, .int x2]) (rest := []) X.1 (ad_X9_isLabel (D := D) l J x1 x2 σ _ hq) (cwV 2 X.1.2.2.2.2 gX9_share_X9_isLabel rfl rfl rfl nd_X9_isLabel ⟨Nat.le_of_ble_eq_true rfl, Nat.le_of_ble_eq_true rfl⟩) (hh_preV X h fm_0_0 km_0 [.int x1, .int x2]) rfl rfl hl.1 rfl (lv_room (Nat.le_of_ble_eq_true rfl)) dX9_share_3 ⟨Nat.le_of_ble_eq_true rfl, Nat.le_of_ble_eq_true rfl⟩) (fun r1 σ2 H locs hq h => ?_)
  refine lv_if_eq (tgt := 18) hx hb1 dX9_share_6 (by decide) (fun c3 => ?_) (fun c3 => ?_)
  · have hq := hq.1 c3
    refine lv_iconst (v := (-1 : Int32)) hx hb1 dX9_share_18 (by decide) ?_
    exact hh_iret X h hr hlocks hq dX9_share_19
  · have hq := hq.2 c3
    refine lv_aload_n hx hb1 dX9_share_9 rfl (lv_at hl 0 rfl) ?_
    refine lv_iload_n hx hb1 dX9_share_10 rfl (lv_at hl 1 rfl) ?_
    refine lv_iload_n hx hb1 dX9_share_11 rfl (lv_at hl 2 rfl) ?_
    refine hh_kI h (va_runV (As := [.int x1, .int x2]) (rest := []) X.1 (ad_X9_shareOf (D := D) l J x1 x2 σ2 _ hq) (cwV 2 X.1.2.2.2.2 gX9_share_X9_shareOf rfl rfl rfl nd_X9_shareOf ⟨Nat.le_of_ble_eq_true rfl, Nat.le_of_ble_eq_true rfl⟩) (hh_preV X h fm_0_0 km_0 [.int x1, .int x2]) rfl rfl hl.1 rfl (lv_room (Nat.le_of_ble_eq_true rfl)) dX9_share_12 ⟨Nat.le_of_ble_eq_true rfl, Nat.le_of_ble_eq_true rfl⟩) (fun r4 σ5 H locs hq h => ?_)
    refine lv_goto (tgt := 19) hx hb1 dX9_share_15 (by decide) ?_
    exact hh_iret X h hr hlocks hq dX9_share_19
theorem nd_X9_table : yX9_table.cls = RX9 ∧ yX9_table.cls ≠ "java/lang/invoke/MethodHandle" ∧ yX9_table.cls ≠ "java/lang/invoke/VarHandle" ∧ (parseMethodDescriptor yX9_table.desc).map (fun d => d.parameters.length) = some 4 := by decide +kernel
abbrev rm_X9_table : Room := { frames := 2, cells := 0, slots := 0, locals := 43 }
def wp_X9_table (x1 : Int32) (x2 : Int32) (x3 : Int32) (x4 : Int32) (σ : hh_S) (Q : Int32 → hh_S → Prop) : Prop := (wp_X9_isHand x1 σ (fun (r1 : Int32) (σ2 : hh_S) => ((¬ r1 = 0 → (wp_X9_in x2 (2 : Int32) (4 : Int32) σ2 (fun (r4 : Int32) (σ5 : hh_S) => ((r4 = 0 → (Q (-2 : Int32) σ5)) ∧ (¬ r4 = 0 → (wp_X9_in x3 (0 : Int32) (x2 - (1 : Int32)) σ5 (fun (r7 : Int32) (σ8 : hh_S) => ((r7 = 0 → (Q (-2 : Int32) σ8)) ∧ (¬ r7 = 0 → (wp_X9_in x4 (0 : Int32) (x2 - (1 : Int32)) σ8 (fun (r10 : Int32) (σ11 : hh_S) => ((¬ r10 = 0 → (((hh_I σ11 20) = 0 → (Q (-6 : Int32) σ11)) ∧ (¬ (hh_I σ11 20) = 0 → (((hh_I σ11 22) ≤ x1 → (Q (-6 : Int32) σ11)) ∧ (¬ (hh_I σ11 22) ≤ x1 → (wp_X9_at x1 x2 x3 x4 σ11 (fun (r15 : Int32) (σ16 : hh_S) => (vp_in r15 480 ∧ (Q (hh_rA σ16 18 r15) σ16))))))))) ∧ (r10 = 0 → (Q (-2 : Int32) σ11)))))))))))))) ∧ (r1 = 0 → (Q (-1 : Int32) σ2)))))
theorem in_X9_table_X9 : ∀ w ∈ u_ws RX9 TX9 37, w ∈ wsX9_table := fun w h => List.mem_cons_of_mem _ (List.mem_append_right _ h)
set_option maxHeartbeats 4000000 in
set_option maxRecDepth 100000 in
theorem ad_X9_table {D : va_G} (l : Launch) {cy : Nat → ClassId} {ad : Nat → Nat} (J : hh_J hm_Y ad) (x1 : Int32) (x2 : Int32) (x3 : Int32) (x4 : Int32) (σ : hh_S) (Q : Int32 → hh_S → Prop) (hq : wp_X9_table x1 x2 x3 x4 σ Q) : Met l yX9_table wsX9_table rm_X9_table (va_Pc [.ref (ad 0), .int x1, .int x2, .int x3, .int x4] (hh_B D hh_cl hm_Y cy ad σ)) (va_Qi Q (hh_B D hh_cl hm_Y cy ad) (hh_A hm_Y ad)) 0 0 (hh_A hm_Y ad) := by
  refine Met.ofW (cc := cX9_table) (maxL := 5) (ret := (some .int)) (by decide) rfl ?_
  intro p e s m args below meth c s₁ B hml hv
  obtain ⟨hargs, hP0, hK0⟩ := hv
  have hr := B.returns
  have hlocks := B.notSynchronized
  have X : hh_X p m c cX9_table 5 s args wsX9_table RX9 D hh_cl hm_Y cy ad := ⟨⟨B.exec, B.bytes, hml, findClass_of_methodNamed B.named, atoms_spec (ws := wsX9_table) B.pre⟩, hK0, J⟩
  have hx := X.1.1
  have hb1 := X.1.2.1
  have h : hh_H D hh_cl hm_Y cy ad s.heap σ s.heap [] := ⟨hP0, va_S.rf⟩
  subst hargs
  refine hh_entry (vs := [.ref (ad 0), .int x1, .int x2, .int x3, .int x4]) (Nat.le_of_ble_eq_true rfl) (fun ls hl => ?_)
  have hl : lv_has ls 5 [(0, .ref (ad 0)), (1, .int x1), (2, .int x2), (3, .int x3), (4, .int x4)] := hl
  have hq : wp_X9_table x1 x2 x3 x4 σ Q := hq
  unfold wp_X9_table at hq
  refine lv_aload_n hx hb1 dX9_table_0 rfl (lv_at hl 0 rfl) ?_
  refine lv_iload_n hx hb1 dX9_table_1 rfl (lv_at hl 1 rfl) ?_
  refine hh_kI h (va_runV (As := [.int x1]) (rest := []) X.1 (ad_X9_isHand (D := D) l J x1 σ _ hq) (cwV 1 X.1.2.2.2.2 gX9_table_X9_isHand rfl rfl rfl nd_X9_isHand ⟨Nat.le_of_ble_eq_true rfl, Nat.le_of_ble_eq_true rfl⟩) (hh_preV X h fm_0_0 km_0 [.int x1]) rfl rfl hl.1 rfl (lv_room (Nat.le_of_ble_eq_true rfl)) dX9_table_2 ⟨Nat.le_of_ble_eq_true rfl, Nat.le_of_ble_eq_true rfl⟩) (fun r1 σ2 H locs hq h => ?_)
  refine lv_if_ne (tgt := 10) hx hb1 dX9_table_5 (by decide) (fun c3 => ?_) (fun c3 => ?_)
  · have hq := hq.1 c3
    refine lv_iload_n hx hb1 dX9_table_10 rfl (lv_at hl 2 rfl) ?_
    refine lv_iconst (v := (2 : Int32)) hx hb1 dX9_table_11 (by decide) ?_
    refine lv_iconst (v := (4 : Int32)) hx hb1 dX9_table_12 (by decide) ?_
    refine hh_kI h (va_runS (As := [.int x2, .int (2 : Int32), .int (4 : Int32)]) (rest := []) X.1 (ad_X9_in (D := D) l J x2 (2 : Int32) (4 : Int32) σ2 _ hq) (va_cwS 3 X.1.2.2.2.2 gX9_table_X9_in rfl rfl rfl nd_X9_in ⟨Nat.le_of_ble_eq_true rfl, Nat.le_of_ble_eq_true rfl⟩) (hh_preS X h [.int x2, .int (2 : Int32), .int (4 : Int32)]) rfl rfl hl.1 rfl (lv_room (Nat.le_of_ble_eq_true rfl)) dX9_table_13 ⟨Nat.le_of_ble_eq_true rfl, Nat.le_of_ble_eq_true rfl⟩) (fun r4 σ5 H locs hq h => ?_)
    refine lv_if_eq (tgt := 42) hx hb1 dX9_table_16 (by decide) (fun c6 => ?_) (fun c6 => ?_)
    · have hq := hq.1 c6
      refine lv_bipush (v := (-2 : Int32)) hx hb1 dX9_table_42 (by decide) ?_
      exact hh_iret X h hr hlocks hq dX9_table_44
    · have hq := hq.2 c6
      refine lv_iload_n hx hb1 dX9_table_19 rfl (lv_at hl 3 rfl) ?_
      refine lv_iconst (v := (0 : Int32)) hx hb1 dX9_table_20 (by decide) ?_
      refine lv_iload_n hx hb1 dX9_table_21 rfl (lv_at hl 2 rfl) ?_
      refine lv_iconst (v := (1 : Int32)) hx hb1 dX9_table_22 (by decide) ?_
      refine lv_isub hx hb1 dX9_table_23 ?_
      refine hh_kI h (va_runS (As := [.int x3, .int (0 : Int32), .int (x2 - (1 : Int32))]) (rest := []) X.1 (ad_X9_in (D := D) l J x3 (0 : Int32) (x2 - (1 : Int32)) σ5 _ hq) (va_cwS 3 X.1.2.2.2.2 gX9_table_X9_in rfl rfl rfl nd_X9_in ⟨Nat.le_of_ble_eq_true rfl, Nat.le_of_ble_eq_true rfl⟩) (hh_preS X h [.int x3, .int (0 : Int32), .int (x2 - (1 : Int32))]) rfl rfl hl.1 rfl (lv_room (Nat.le_of_ble_eq_true rfl)) dX9_table_24 ⟨Nat.le_of_ble_eq_true rfl, Nat.le_of_ble_eq_true rfl⟩) (fun r7 σ8 H locs hq h => ?_)
      refine lv_if_eq (tgt := 42) hx hb1 dX9_table_27 (by decide) (fun c9 => ?_) (fun c9 => ?_)
      · have hq := hq.1 c9
        refine lv_bipush (v := (-2 : Int32)) hx hb1 dX9_table_42 (by decide) ?_
        exact hh_iret X h hr hlocks hq dX9_table_44
      · have hq := hq.2 c9
        refine lv_iload hx hb1 dX9_table_30 (lv_at hl 4 rfl) ?_
        refine lv_iconst (v := (0 : Int32)) hx hb1 dX9_table_32 (by decide) ?_
        refine lv_iload_n hx hb1 dX9_table_33 rfl (lv_at hl 2 rfl) ?_
        refine lv_iconst (v := (1 : Int32)) hx hb1 dX9_table_34 (by decide) ?_
        refine lv_isub hx hb1 dX9_table_35 ?_
        refine hh_kI h (va_runS (As := [.int x4, .int (0 : Int32), .int (x2 - (1 : Int32))]) (rest := []) X.1 (ad_X9_in (D := D) l J x4 (0 : Int32) (x2 - (1 : Int32)) σ8 _ hq) (va_cwS 3 X.1.2.2.2.2 gX9_table_X9_in rfl rfl rfl nd_X9_in ⟨Nat.le_of_ble_eq_true rfl, Nat.le_of_ble_eq_true rfl⟩) (hh_preS X h [.int x4, .int (0 : Int32), .int (x2 - (1 : Int32))]) rfl rfl hl.1 rfl (lv_room (Nat.le_of_ble_eq_true rfl)) dX9_table_36 ⟨Nat.le_of_ble_eq_true rfl, Nat.le_of_ble_eq_true rfl⟩) (fun r10 σ11 H locs hq h => ?_)
        refine lv_if_ne (tgt := 45) hx hb1 dX9_table_39 (by decide) (fun c12 => ?_) (fun c12 => ?_)
        · have hq := hq.1 c12
          refine lv_aload_n hx hb1 dX9_table_45 rfl (lv_at hl 0 rfl) ?_
          refine hh_geti X h (q := 20) fm_0_20 rfl in_X9_table_X9 km_0 (by decide) (List.mem_of_getElem? (i := 1) rfl) rfl dX9_table_46 ?_
          refine lv_if_eq (tgt := 76) hx hb1 dX9_table_49 (by decide) (fun c13 => ?_) (fun c13 => ?_)
          · have hq := hq.1 c13
            refine lv_bipush (v := (-6 : Int32)) hx hb1 dX9_table_76 (by decide) ?_
            exact hh_iret X h hr hlocks hq dX9_table_78
          · have hq := hq.2 c13
            refine lv_iload_n hx hb1 dX9_table_52 rfl (lv_at hl 1 rfl) ?_
            refine lv_aload_n hx hb1 dX9_table_53 rfl (lv_at hl 0 rfl) ?_
            refine hh_geti X h (q := 22) fm_0_22 rfl in_X9_table_X9 km_0 (by decide) (List.mem_of_getElem? (i := 2) rfl) rfl dX9_table_54 ?_
            refine lv_icmp_ge (tgt := 76) hx hb1 dX9_table_57 (by decide) (fun c14 => ?_) (fun c14 => ?_)
            · have hq := hq.1 c14
              refine lv_bipush (v := (-6 : Int32)) hx hb1 dX9_table_76 (by decide) ?_
              exact hh_iret X h hr hlocks hq dX9_table_78
            · have hq := hq.2 c14
              refine lv_aload_n hx hb1 dX9_table_60 rfl (lv_at hl 0 rfl) ?_
              refine hh_getr X h fm_0_24 in_X9_table_X9 km_0 (by decide) (List.mem_of_getElem? (i := 3) rfl) rfl dX9_table_61 ?_
              refine lv_iload_n hx hb1 dX9_table_64 rfl (lv_at hl 1 rfl) ?_
              refine lv_iload_n hx hb1 dX9_table_65 rfl (lv_at hl 2 rfl) ?_
              refine lv_iload_n hx hb1 dX9_table_66 rfl (lv_at hl 3 rfl) ?_
              refine lv_iload hx hb1 dX9_table_67 (lv_at hl 4 rfl) ?_
              refine hh_kI h (va_runS (As := [.int x1, .int x2, .int x3, .int x4]) (rest := [.ref (ad 18)]) X.1 (ad_X9_at (D := D) l J x1 x2 x3 x4 σ11 _ hq) (va_cwS 4 X.1.2.2.2.2 gX9_table_X9_at rfl rfl rfl nd_X9_at ⟨Nat.le_of_ble_eq_true rfl, Nat.le_of_ble_eq_true rfl⟩) (hh_preS X h [.int x1, .int x2, .int x3, .int x4]) rfl rfl hl.1 rfl (lv_room (Nat.le_of_ble_eq_true rfl)) dX9_table_69 ⟨Nat.le_of_ble_eq_true rfl, Nat.le_of_ble_eq_true rfl⟩) (fun r15 σ16 H locs hq h => ?_)
              obtain ⟨h17, hq⟩ := hq
              refine hh_ild X h am_18 h17 dX9_table_72 ?_
              refine lv_goto (tgt := 78) hx hb1 dX9_table_73 (by decide) ?_
              exact hh_iret X h hr hlocks hq dX9_table_78
        · have hq := hq.2 c12
          refine lv_bipush (v := (-2 : Int32)) hx hb1 dX9_table_42 (by decide) ?_
          exact hh_iret X h hr hlocks hq dX9_table_44
  · have hq := hq.2 c3
    refine lv_iconst (v := (-1 : Int32)) hx hb1 dX9_table_8 (by decide) ?_
    exact hh_iret X h hr hlocks hq dX9_table_9
theorem nd_X9_helpOf : yX9_helpOf.cls = RX9 ∧ yX9_helpOf.cls ≠ "java/lang/invoke/MethodHandle" ∧ yX9_helpOf.cls ≠ "java/lang/invoke/VarHandle" ∧ (parseMethodDescriptor yX9_helpOf.desc).map (fun d => d.parameters.length) = some 2 := by decide +kernel
abbrev rm_X9_helpOf : Room := { frames := 3, cells := 0, slots := 0, locals := 67 }
def wq_X9_helpOf_24 (K12 : Int64 → Int32 → hh_S → Prop) (x1 : Int32) (x2 : Int32) (x3 : Int32) (x4 : Int64) (x6 : Int32) (Q : Int32 → hh_S → Prop) (K24 : Int64 → Int32 → hh_S → Prop) (x7 : Int64) (x9 : Int32) (σ : hh_S) : Prop := ((x3 ≤ x9 → (K12 (x4 + x7) (x6 + (1 : Int32)) σ)) ∧ (¬ x3 ≤ x9 → (wp_X9_shareOf x2 x9 σ (fun (r2 : Int32) (σ3 : hh_S) => (wp_X9_at x1 x3 x9 x6 σ3 (fun (r4 : Int32) (σ5 : hh_S) => (vp_in r4 480 ∧ (∀ v7 : Int64, v7 = ((r2.toInt64) * ((hh_rA σ5 18 r4).toInt64)) → (((lg_cmp v7 x7) ≤ 0 → (K24 x7 (x9 + (1 : Int32)) σ5)) ∧ (¬ (lg_cmp v7 x7) ≤ 0 → (K24 v7 (x9 + (1 : Int32)) σ5)))))))))))
def wq_X9_helpOf_12 (x1 : Int32) (x2 : Int32) (x3 : Int32) (Q : Int32 → hh_S → Prop) (K12 : Int64 → Int32 → hh_S → Prop) (x4 : Int64) (x6 : Int32) (σ : hh_S) : Prop := ((x3 ≤ x6 → (wp_X9_endOf x2 σ (fun (r10 : Int32) (σ11 : hh_S) => (wp_X9_shareOf x2 r10 σ11 (fun (r12 : Int32) (σ13 : hh_S) => (Q (((x4 / (1000 : Int64)).toInt32) - r12) σ13)))))) ∧ (¬ x3 ≤ x6 → (∃ n : Nat, hh_lp2 (wq_X9_helpOf_24 K12 x1 x2 x3 x4 x6 Q) n (0 : Int64) (0 : Int32) σ)))
def wp_X9_helpOf (x1 : Int32) (x2 : Int32) (σ : hh_S) (Q : Int32 → hh_S → Prop) : Prop := (wp_X9_labelsOf x2 σ (fun (r15 : Int32) (σ16 : hh_S) => (∃ n : Nat, hh_lp2 (wq_X9_helpOf_12 x1 x2 r15 Q) n (0 : Int64) (0 : Int32) σ16)))
theorem in_X9_helpOf_X9 : ∀ w ∈ u_ws RX9 TX9 37, w ∈ wsX9_helpOf := fun w h => List.mem_cons_of_mem _ (List.mem_append_right _ h)
set_option maxHeartbeats 4000000 in
set_option maxRecDepth 100000 in
theorem ad_X9_helpOf {D : va_G} (l : Launch) {cy : Nat → ClassId} {ad : Nat → Nat} (J : hh_J hm_Y ad) (x1 : Int32) (x2 : Int32) (σ : hh_S) (Q : Int32 → hh_S → Prop) (hq : wp_X9_helpOf x1 x2 σ Q) : Met l yX9_helpOf wsX9_helpOf rm_X9_helpOf (va_Pc [.ref (ad 0), .int x1, .int x2] (hh_B D hh_cl hm_Y cy ad σ)) (va_Qi Q (hh_B D hh_cl hm_Y cy ad) (hh_A hm_Y ad)) 0 0 (hh_A hm_Y ad) := by
  refine Met.ofW (cc := cX9_helpOf) (maxL := 12) (ret := (some .int)) (by decide) rfl ?_
  intro p e s m args below meth c s₁ B hml hv
  obtain ⟨hargs, hP0, hK0⟩ := hv
  have hr := B.returns
  have hlocks := B.notSynchronized
  have X : hh_X p m c cX9_helpOf 12 s args wsX9_helpOf RX9 D hh_cl hm_Y cy ad := ⟨⟨B.exec, B.bytes, hml, findClass_of_methodNamed B.named, atoms_spec (ws := wsX9_helpOf) B.pre⟩, hK0, J⟩
  have hx := X.1.1
  have hb1 := X.1.2.1
  have h : hh_H D hh_cl hm_Y cy ad s.heap σ s.heap [] := ⟨hP0, va_S.rf⟩
  have lt_24 : ∀ (x1 : Int32) (x2 : Int32) (x3 : Int32) (x4 : Int64) (x6 : Int32) (K12 : Int64 → Int32 → hh_S → Prop) (hK12 : ∀ (x4 : Int64) (x6 : Int32) (σ : hh_S) (H : Heap) (locs : List Loc) (ls : Array Slot), K12 x4 x6 σ → hh_H D hh_cl hm_Y cy ad s.heap σ H locs → lv_has ls 12 [(0, .ref (ad 0)), (1, .int x1), (2, .int x2), (3, .int x3), (4, .long x4), (6, .int x6)] → W p l e (headSpec wsX9_helpOf rm_X9_helpOf).room s m args below meth c H locs 0 0 (MQ below (va_Qi Q (hh_B D hh_cl hm_Y cy ad) (hh_A hm_Y ad)) args s 0 0 (hh_A hm_Y ad)) (F0 m 12 ls [])) (n : Nat) (x7 : Int64) (x9 : Int32) (σ : hh_S) (H : Heap) (locs : List Loc) (ls : Array Slot), hh_lp2 (wq_X9_helpOf_24 K12 x1 x2 x3 x4 x6 Q) n x7 x9 σ → hh_H D hh_cl hm_Y cy ad s.heap σ H locs → lv_has ls 12 [(0, .ref (ad 0)), (1, .int x1), (2, .int x2), (3, .int x3), (4, .long x4), (6, .int x6), (7, .long x7), (9, .int x9)] → W p l e (headSpec wsX9_helpOf rm_X9_helpOf).room s m args below meth c H locs 0 0 (MQ below (va_Qi Q (hh_B D hh_cl hm_Y cy ad) (hh_A hm_Y ad)) args s 0 0 (hh_A hm_Y ad)) (F0 m 24 ls []) := by
    intro x1 x2 x3 x4 x6 K12 hK12 n
    induction n with
    | zero => intro x7 x9 σ H locs ls hq h hl; exact hq.elim
    | succ n ih =>
      intro x7 x9 σ H locs ls hq h hl
      have hq : wq_X9_helpOf_24 K12 x1 x2 x3 x4 x6 Q (hh_lp2 (wq_X9_helpOf_24 K12 x1 x2 x3 x4 x6 Q) n) x7 x9 σ := hq
      unfold wq_X9_helpOf_24 at hq
      refine lv_iload hx hb1 dX9_helpOf_24 (lv_at hl 7 rfl) ?_
      refine lv_iload_n hx hb1 dX9_helpOf_26 rfl (lv_at hl 3 rfl) ?_
      refine lv_icmp_ge (tgt := 79) hx hb1 dX9_helpOf_27 (by decide) (fun c1 => ?_) (fun c1 => ?_)
      · have hq := hq.1 c1
        refine lv_lload hx hb1 dX9_helpOf_79 (lv_at hl 4 rfl) ?_
        refine lv_lload hx hb1 dX9_helpOf_81 (lv_at hl 6 rfl) ?_
        refine lv_ladd hx hb1 dX9_helpOf_83 ?_
        refine lv_lstore (lv' := [(4, .long (x4 + x7)), (0, .ref (ad 0)), (1, .int x1), (2, .int x2), (3, .int x3), (6, .int x6), (7, .long x7), (9, .int x9)]) hx hb1 dX9_helpOf_84 hl (by decide) rfl (fun ls hl => ?_)
        refine lv_iinc (v := (x6 + (1 : Int32))) (lv' := [(6, .int (x6 + (1 : Int32))), (4, .long (x4 + x7)), (0, .ref (ad 0)), (1, .int x1), (2, .int x2), (3, .int x3), (7, .long x7), (9, .int x9)]) hx hb1 dX9_helpOf_86 hl (k := 5) rfl rfl (by decide) rfl (fun ls hl => ?_)
        refine lv_goto (tgt := 12) hx hb1 dX9_helpOf_89 (by decide) ?_
        exact hK12 (x4 + x7) (x6 + (1 : Int32)) σ _ _ ls hq h (lv_sub hl [2, 3, 4, 5, 1, 0] rfl)
      · have hq := hq.2 c1
        refine lv_aload_n hx hb1 dX9_helpOf_30 rfl (lv_at hl 0 rfl) ?_
        refine lv_iload_n hx hb1 dX9_helpOf_31 rfl (lv_at hl 2 rfl) ?_
        refine lv_iload hx hb1 dX9_helpOf_32 (lv_at hl 7 rfl) ?_
        refine hh_kI h (va_runV (As := [.int x2, .int x9]) (rest := []) X.1 (ad_X9_shareOf (D := D) l J x2 x9 σ _ hq) (cwV 2 X.1.2.2.2.2 gX9_helpOf_X9_shareOf rfl rfl rfl nd_X9_shareOf ⟨Nat.le_of_ble_eq_true rfl, Nat.le_of_ble_eq_true rfl⟩) (hh_preV X h fm_0_0 km_0 [.int x2, .int x9]) rfl rfl hl.1 rfl (lv_room (Nat.le_of_ble_eq_true rfl)) dX9_helpOf_34 ⟨Nat.le_of_ble_eq_true rfl, Nat.le_of_ble_eq_true rfl⟩) (fun r2 σ3 H locs hq h => ?_)
        refine lv_i2l (v := (r2).toInt64) hx hb1 dX9_helpOf_37 rfl ?_
        refine lv_aload_n hx hb1 dX9_helpOf_38 rfl (lv_at hl 0 rfl) ?_
        refine hh_getr X h fm_0_24 in_X9_helpOf_X9 km_0 (by decide) (List.mem_of_getElem? (i := 1) rfl) rfl dX9_helpOf_39 ?_
        refine lv_iload_n hx hb1 dX9_helpOf_42 rfl (lv_at hl 1 rfl) ?_
        refine lv_iload_n hx hb1 dX9_helpOf_43 rfl (lv_at hl 3 rfl) ?_
        refine lv_iload hx hb1 dX9_helpOf_44 (lv_at hl 7 rfl) ?_
        refine lv_iload hx hb1 dX9_helpOf_46 (lv_at hl 5 rfl) ?_
        refine hh_kI h (va_runS (As := [.int x1, .int x3, .int x9, .int x6]) (rest := [.ref (ad 18), .long (r2.toInt64)]) X.1 (ad_X9_at (D := D) l J x1 x3 x9 x6 σ3 _ hq) (va_cwS 4 X.1.2.2.2.2 gX9_helpOf_X9_at rfl rfl rfl nd_X9_at ⟨Nat.le_of_ble_eq_true rfl, Nat.le_of_ble_eq_true rfl⟩) (hh_preS X h [.int x1, .int x3, .int x9, .int x6]) rfl rfl hl.1 rfl (lv_room (Nat.le_of_ble_eq_true rfl)) dX9_helpOf_48 ⟨Nat.le_of_ble_eq_true rfl, Nat.le_of_ble_eq_true rfl⟩) (fun r4 σ5 H locs hq h => ?_)
        obtain ⟨h6, hq⟩ := hq
        refine hh_ild X h am_18 h6 dX9_helpOf_51 ?_
        refine lv_i2l (v := ((hh_rA σ5 18 r4)).toInt64) hx hb1 dX9_helpOf_52 rfl ?_
        refine lv_lmul hx hb1 dX9_helpOf_53 ?_
        refine lv_topl (fun v7 ev7 => ?_)
        have hq := hq v7 ev7
        refine lv_lstore (lv' := [(10, .long v7), (0, .ref (ad 0)), (1, .int x1), (2, .int x2), (3, .int x3), (4, .long x4), (6, .int x6), (7, .long x7), (9, .int x9)]) hx hb1 dX9_helpOf_54 hl (by decide) rfl (fun ls hl => ?_)
        refine lv_lload hx hb1 dX9_helpOf_56 (lv_at hl 0 rfl) ?_
        refine lv_lload hx hb1 dX9_helpOf_58 (lv_at hl 7 rfl) ?_
        refine W.lcmp hx hb1 dX9_helpOf_60 ?_
        refine lv_if_le (tgt := 69) hx hb1 dX9_helpOf_61 (by decide) (fun c8 => ?_) (fun c8 => ?_)
        · have hq := hq.1 c8
          refine lv_lload hx hb1 dX9_helpOf_69 (lv_at hl 7 rfl) ?_
          refine lv_lstore (lv' := [(7, .long x7), (10, .long v7), (0, .ref (ad 0)), (1, .int x1), (2, .int x2), (3, .int x3), (4, .long x4), (6, .int x6), (9, .int x9)]) hx hb1 dX9_helpOf_71 hl (by decide) rfl (fun ls hl => ?_)
          refine lv_iinc (v := (x9 + (1 : Int32))) (lv' := [(9, .int (x9 + (1 : Int32))), (7, .long x7), (10, .long v7), (0, .ref (ad 0)), (1, .int x1), (2, .int x2), (3, .int x3), (4, .long x4), (6, .int x6)]) hx hb1 dX9_helpOf_73 hl (k := 8) rfl rfl (by decide) rfl (fun ls hl => ?_)
          refine lv_goto (tgt := 24) hx hb1 dX9_helpOf_76 (by decide) ?_
          exact ih x7 (x9 + (1 : Int32)) σ5 _ _ ls hq h (lv_sub hl [3, 4, 5, 6, 7, 8, 1, 0] rfl)
        · have hq := hq.2 c8
          refine lv_lload hx hb1 dX9_helpOf_64 (lv_at hl 0 rfl) ?_
          refine lv_goto (tgt := 71) hx hb1 dX9_helpOf_66 (by decide) ?_
          refine lv_lstore (lv' := [(7, .long v7), (10, .long v7), (0, .ref (ad 0)), (1, .int x1), (2, .int x2), (3, .int x3), (4, .long x4), (6, .int x6), (9, .int x9)]) hx hb1 dX9_helpOf_71 hl (by decide) rfl (fun ls hl => ?_)
          refine lv_iinc (v := (x9 + (1 : Int32))) (lv' := [(9, .int (x9 + (1 : Int32))), (7, .long v7), (10, .long v7), (0, .ref (ad 0)), (1, .int x1), (2, .int x2), (3, .int x3), (4, .long x4), (6, .int x6)]) hx hb1 dX9_helpOf_73 hl (k := 8) rfl rfl (by decide) rfl (fun ls hl => ?_)
          refine lv_goto (tgt := 24) hx hb1 dX9_helpOf_76 (by decide) ?_
          exact ih v7 (x9 + (1 : Int32)) σ5 _ _ ls hq h (lv_sub hl [3, 4, 5, 6, 7, 8, 1, 0] rfl)
  have lt_12 : ∀ (x1 : Int32) (x2 : Int32) (x3 : Int32) (n : Nat) (x4 : Int64) (x6 : Int32) (σ : hh_S) (H : Heap) (locs : List Loc) (ls : Array Slot), hh_lp2 (wq_X9_helpOf_12 x1 x2 x3 Q) n x4 x6 σ → hh_H D hh_cl hm_Y cy ad s.heap σ H locs → lv_has ls 12 [(0, .ref (ad 0)), (1, .int x1), (2, .int x2), (3, .int x3), (4, .long x4), (6, .int x6)] → W p l e (headSpec wsX9_helpOf rm_X9_helpOf).room s m args below meth c H locs 0 0 (MQ below (va_Qi Q (hh_B D hh_cl hm_Y cy ad) (hh_A hm_Y ad)) args s 0 0 (hh_A hm_Y ad)) (F0 m 12 ls []) := by
    intro x1 x2 x3 n
    induction n with
    | zero => intro x4 x6 σ H locs ls hq h hl; exact hq.elim
    | succ n ih =>
      intro x4 x6 σ H locs ls hq h hl
      have hq : wq_X9_helpOf_12 x1 x2 x3 Q (hh_lp2 (wq_X9_helpOf_12 x1 x2 x3 Q) n) x4 x6 σ := hq
      unfold wq_X9_helpOf_12 at hq
      refine lv_iload hx hb1 dX9_helpOf_12 (lv_at hl 5 rfl) ?_
      refine lv_iload_n hx hb1 dX9_helpOf_14 rfl (lv_at hl 3 rfl) ?_
      refine lv_icmp_ge (tgt := 92) hx hb1 dX9_helpOf_15 (by decide) (fun c9 => ?_) (fun c9 => ?_)
      · have hq := hq.1 c9
        refine lv_lload hx hb1 dX9_helpOf_92 (lv_at hl 4 rfl) ?_
        refine lv_ldc2 (v := (1000 : Int64)) hx hb1 X.1.2.2.2.1 (X.1.2.2.2.2 _ (List.mem_of_getElem? (i := 2) rfl)) dX9_helpOf_94 ?_
        refine lv_ldiv hx hb1 dX9_helpOf_97 (by decide) ?_
        refine lv_l2i (v := ((x4 / (1000 : Int64))).toInt32) hx hb1 dX9_helpOf_98 rfl ?_
        refine lv_aload_n hx hb1 dX9_helpOf_99 rfl (lv_at hl 0 rfl) ?_
        refine lv_iload_n hx hb1 dX9_helpOf_100 rfl (lv_at hl 2 rfl) ?_
        refine lv_aload_n hx hb1 dX9_helpOf_101 rfl (lv_at hl 0 rfl) ?_
        refine lv_iload_n hx hb1 dX9_helpOf_102 rfl (lv_at hl 2 rfl) ?_
        refine hh_kI h (va_runV (As := [.int x2]) (rest := [.int x2, .ref (ad 0), .int ((x4 / (1000 : Int64)).toInt32)]) X.1 (ad_X9_endOf (D := D) l J x2 σ _ hq) (cwV 1 X.1.2.2.2.2 gX9_helpOf_X9_endOf rfl rfl rfl nd_X9_endOf ⟨Nat.le_of_ble_eq_true rfl, Nat.le_of_ble_eq_true rfl⟩) (hh_preV X h fm_0_0 km_0 [.int x2]) rfl rfl hl.1 rfl (lv_room (Nat.le_of_ble_eq_true rfl)) dX9_helpOf_103 ⟨Nat.le_of_ble_eq_true rfl, Nat.le_of_ble_eq_true rfl⟩) (fun r10 σ11 H locs hq h => ?_)
        refine hh_kI h (va_runV (As := [.int x2, .int r10]) (rest := [.int ((x4 / (1000 : Int64)).toInt32)]) X.1 (ad_X9_shareOf (D := D) l J x2 r10 σ11 _ hq) (cwV 2 X.1.2.2.2.2 gX9_helpOf_X9_shareOf rfl rfl rfl nd_X9_shareOf ⟨Nat.le_of_ble_eq_true rfl, Nat.le_of_ble_eq_true rfl⟩) (hh_preV X h fm_0_0 km_0 [.int x2, .int r10]) rfl rfl hl.1 rfl (lv_room (Nat.le_of_ble_eq_true rfl)) dX9_helpOf_106 ⟨Nat.le_of_ble_eq_true rfl, Nat.le_of_ble_eq_true rfl⟩) (fun r12 σ13 H locs hq h => ?_)
        refine lv_isub hx hb1 dX9_helpOf_109 ?_
        exact hh_iret X h hr hlocks hq dX9_helpOf_110
      · have hq := hq.2 c9
        refine lv_lconst (v := (0 : Int64)) hx hb1 dX9_helpOf_18 (by decide) ?_
        refine lv_lstore (lv' := [(7, .long (0 : Int64)), (0, .ref (ad 0)), (1, .int x1), (2, .int x2), (3, .int x3), (4, .long x4), (6, .int x6)]) hx hb1 dX9_helpOf_19 hl (by decide) rfl (fun ls hl => ?_)
        refine lv_iconst (v := (0 : Int32)) hx hb1 dX9_helpOf_21 (by decide) ?_
        refine lv_istore (lv' := [(9, .int (0 : Int32)), (7, .long (0 : Int64)), (0, .ref (ad 0)), (1, .int x1), (2, .int x2), (3, .int x3), (4, .long x4), (6, .int x6)]) hx hb1 dX9_helpOf_22 hl (by decide) rfl (fun ls hl => ?_)
        obtain ⟨n14, hq⟩ := hq
        exact lt_24 x1 x2 x3 x4 x6 (hh_lp2 (wq_X9_helpOf_12 x1 x2 x3 Q) n) ih n14 (0 : Int64) (0 : Int32) σ _ _ ls hq h (lv_sub hl [2, 3, 4, 5, 6, 7, 1, 0] rfl)
  subst hargs
  refine hh_entry (vs := [.ref (ad 0), .int x1, .int x2]) (Nat.le_of_ble_eq_true rfl) (fun ls hl => ?_)
  have hl : lv_has ls 12 [(0, .ref (ad 0)), (1, .int x1), (2, .int x2)] := hl
  have hq : wp_X9_helpOf x1 x2 σ Q := hq
  unfold wp_X9_helpOf at hq
  refine lv_aload_n hx hb1 dX9_helpOf_0 rfl (lv_at hl 0 rfl) ?_
  refine lv_iload_n hx hb1 dX9_helpOf_1 rfl (lv_at hl 2 rfl) ?_
  refine hh_kI h (va_runV (As := [.int x2]) (rest := []) X.1 (ad_X9_labelsOf (D := D) l J x2 σ _ hq) (cwV 1 X.1.2.2.2.2 gX9_helpOf_X9_labelsOf rfl rfl rfl nd_X9_labelsOf ⟨Nat.le_of_ble_eq_true rfl, Nat.le_of_ble_eq_true rfl⟩) (hh_preV X h fm_0_0 km_0 [.int x2]) rfl rfl hl.1 rfl (lv_room (Nat.le_of_ble_eq_true rfl)) dX9_helpOf_2 ⟨Nat.le_of_ble_eq_true rfl, Nat.le_of_ble_eq_true rfl⟩) (fun r15 σ16 H locs hq h => ?_)
  refine lv_istore_n (lv' := [(3, .int r15), (0, .ref (ad 0)), (1, .int x1), (2, .int x2)]) hx hb1 dX9_helpOf_5 rfl hl (by decide) rfl (fun ls hl => ?_)
  refine lv_lconst (v := (0 : Int64)) hx hb1 dX9_helpOf_6 (by decide) ?_
  refine lv_lstore (lv' := [(4, .long (0 : Int64)), (3, .int r15), (0, .ref (ad 0)), (1, .int x1), (2, .int x2)]) hx hb1 dX9_helpOf_7 hl (by decide) rfl (fun ls hl => ?_)
  refine lv_iconst (v := (0 : Int32)) hx hb1 dX9_helpOf_9 (by decide) ?_
  refine lv_istore (lv' := [(6, .int (0 : Int32)), (4, .long (0 : Int64)), (3, .int r15), (0, .ref (ad 0)), (1, .int x1), (2, .int x2)]) hx hb1 dX9_helpOf_10 hl (by decide) rfl (fun ls hl => ?_)
  obtain ⟨n17, hq⟩ := hq
  exact lt_12 x1 x2 r15 n17 (0 : Int64) (0 : Int32) σ16 _ _ ls hq h (lv_sub hl [3, 4, 5, 2, 1, 0] rfl)
