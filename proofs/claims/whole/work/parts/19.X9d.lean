theorem nd_X9_next : yX9_next.cls = RX9 ∧ yX9_next.cls ≠ "java/lang/invoke/MethodHandle" ∧ yX9_next.cls ≠ "java/lang/invoke/VarHandle" ∧ (parseMethodDescriptor yX9_next.desc).map (fun d => d.parameters.length) = some 1 := by decide +kernel
abbrev rm_X9_next : Room := { frames := 5, cells := 0, slots := 0, locals := 112 }
def wq_X9_next_57 (K45 : Int32 → Int32 → Int32 → Int32 → hh_S → Prop) (x1 : Int32) (x5 : Int32) (Q : Int32 → hh_S → Prop) (K57 : Int32 → Int32 → Int32 → Int32 → hh_S → Prop) (x2 : Int32) (x3 : Int32) (x4 : Int32) (x6 : Int32) (σ : hh_S) : Prop := (((hh_I σ 13) ≤ x6 → (K45 x2 x3 x4 (x5 + (1 : Int32)) σ)) ∧ (¬ (hh_I σ 13) ≤ x6 → (wp_X9_fixed x5 σ (fun (r2 : Int32) (σ3 : hh_S) => ((0 ≤ r2 → (K45 x2 x3 x4 (x5 + (1 : Int32)) σ3)) ∧ (¬ 0 ≤ r2 → (wp_X9_isOpen x5 σ3 (fun (r5 : Int32) (σ6 : hh_S) => ((r5 = 0 → (K45 x2 x3 x4 (x5 + (1 : Int32)) σ6)) ∧ (¬ r5 = 0 → (vp_in x6 10 ∧ ((¬ (hh_rA σ6 11 x6) = 0 → (((0 : Int32) ≤ x2 → (K57 x2 x3 x4 (x6 + (1 : Int32)) σ6)) ∧ (¬ (0 : Int32) ≤ x2 → (K57 (0 : Int32) x5 x6 (x6 + (1 : Int32)) σ6)))) ∧ ((hh_rA σ6 11 x6) = 0 → (vp_in (((24 : Int32) * x6) + x5) 240 ∧ (((hh_rA σ6 13 (((24 : Int32) * x6) + x5)) ≤ 0 → (wp_X9_helpOf x6 x5 σ6 (fun (r13 : Int32) (σ14 : hh_S) => ((r13 ≤ x2 → (K57 x2 x3 x4 (x6 + (1 : Int32)) σ14)) ∧ (¬ r13 ≤ x2 → (K57 r13 x5 x6 (x6 + (1 : Int32)) σ14)))))) ∧ (¬ (hh_rA σ6 13 (((24 : Int32) * x6) + x5)) ≤ 0 → (((0 : Int32) ≤ x2 → (K57 x2 x3 x4 (x6 + (1 : Int32)) σ6)) ∧ (¬ (0 : Int32) ≤ x2 → (K57 (0 : Int32) x5 x6 (x6 + (1 : Int32)) σ6)))))))))))))))))))
def wq_X9_next_45 (x1 : Int32) (Q : Int32 → hh_S → Prop) (K45 : Int32 → Int32 → Int32 → Int32 → hh_S → Prop) (x2 : Int32) (x3 : Int32) (x4 : Int32) (x5 : Int32) (σ : hh_S) : Prop := (((hh_I σ 7) ≤ x5 → ((0 ≤ x3 → ((¬ x1 = 0 → ((¬ x1 = (1 : Int32) → (Q x2 σ)) ∧ (x1 = (1 : Int32) → (Q x4 σ)))) ∧ (x1 = 0 → (Q x3 σ)))) ∧ (¬ 0 ≤ x3 → (Q (-6 : Int32) σ)))) ∧ (¬ (hh_I σ 7) ≤ x5 → (∃ n : Nat, hh_lp4 (wq_X9_next_57 K45 x1 x5 Q) n x2 x3 x4 (0 : Int32) σ)))
def wp_X9_next (x1 : Int32) (σ : hh_S) (Q : Int32 → hh_S → Prop) : Prop := (wp_X9_in x1 (0 : Int32) (2 : Int32) σ (fun (r22 : Int32) (σ23 : hh_S) => ((¬ r22 = 0 → (((hh_I σ23 20) = 0 → (Q (-3 : Int32) σ23)) ∧ (¬ (hh_I σ23 20) = 0 → (((hh_I σ23 13) ≤ (hh_I σ23 22) → (∃ n : Nat, hh_lp4 (wq_X9_next_45 x1 Q) n (0 : Int32) (-6 : Int32) (-6 : Int32) (0 : Int32) σ23)) ∧ (¬ (hh_I σ23 13) ≤ (hh_I σ23 22) → (Q (-3 : Int32) σ23)))))) ∧ (r22 = 0 → (Q (-2 : Int32) σ23)))))
theorem in_X9_next_X9 : ∀ w ∈ u_ws RX9 TX9 37, w ∈ wsX9_next := fun w h => List.mem_cons_of_mem _ (List.mem_append_right _ h)
set_option maxHeartbeats 4000000 in
set_option maxRecDepth 100000 in
theorem ad_X9_next {D : va_G} (l : Launch) {cy : Nat → ClassId} {ad : Nat → Nat} (J : hh_J hm_Y ad) (x1 : Int32) (σ : hh_S) (Q : Int32 → hh_S → Prop) (hq : wp_X9_next x1 σ Q) : Met l yX9_next wsX9_next rm_X9_next (va_Pc [.ref (ad 0), .int x1] (hh_B D hh_cl hm_Y cy ad σ)) (va_Qi Q (hh_B D hh_cl hm_Y cy ad) (hh_A hm_Y ad)) 0 0 (hh_A hm_Y ad) := by
  refine Met.ofW (cc := cX9_next) (maxL := 8) (ret := (some .int)) (by decide) rfl ?_
  intro p e s m args below meth c s₁ B hml hv
  obtain ⟨hargs, hP0, hK0⟩ := hv
  have hr := B.returns
  have hlocks := B.notSynchronized
  have X : hh_X p m c cX9_next 8 s args wsX9_next RX9 D hh_cl hm_Y cy ad := ⟨⟨B.exec, B.bytes, hml, findClass_of_methodNamed B.named, atoms_spec (ws := wsX9_next) B.pre⟩, hK0, J⟩
  have hx := X.1.1
  have hb1 := X.1.2.1
  have h : hh_H D hh_cl hm_Y cy ad s.heap σ s.heap [] := ⟨hP0, va_S.rf⟩
  have lt_57 : ∀ (x1 : Int32) (x5 : Int32) (K45 : Int32 → Int32 → Int32 → Int32 → hh_S → Prop) (hK45 : ∀ (x2 : Int32) (x3 : Int32) (x4 : Int32) (x5 : Int32) (σ : hh_S) (H : Heap) (locs : List Loc) (ls : Array Slot), K45 x2 x3 x4 x5 σ → hh_H D hh_cl hm_Y cy ad s.heap σ H locs → lv_has ls 8 [(0, .ref (ad 0)), (1, .int x1), (2, .int x2), (3, .int x3), (4, .int x4), (5, .int x5)] → W p l e (headSpec wsX9_next rm_X9_next).room s m args below meth c H locs 0 0 (MQ below (va_Qi Q (hh_B D hh_cl hm_Y cy ad) (hh_A hm_Y ad)) args s 0 0 (hh_A hm_Y ad)) (F0 m 45 ls [])) (n : Nat) (x2 : Int32) (x3 : Int32) (x4 : Int32) (x6 : Int32) (σ : hh_S) (H : Heap) (locs : List Loc) (ls : Array Slot), hh_lp4 (wq_X9_next_57 K45 x1 x5 Q) n x2 x3 x4 x6 σ → hh_H D hh_cl hm_Y cy ad s.heap σ H locs → lv_has ls 8 [(0, .ref (ad 0)), (1, .int x1), (2, .int x2), (3, .int x3), (4, .int x4), (5, .int x5), (6, .int x6)] → W p l e (headSpec wsX9_next rm_X9_next).room s m args below meth c H locs 0 0 (MQ below (va_Qi Q (hh_B D hh_cl hm_Y cy ad) (hh_A hm_Y ad)) args s 0 0 (hh_A hm_Y ad)) (F0 m 57 ls []) := by
    intro x1 x5 K45 hK45 n
    induction n with
    | zero => intro x2 x3 x4 x6 σ H locs ls hq h hl; exact hq.elim
    | succ n ih =>
      intro x2 x3 x4 x6 σ H locs ls hq h hl
      have hq : wq_X9_next_57 K45 x1 x5 Q (hh_lp4 (wq_X9_next_57 K45 x1 x5 Q) n) x2 x3 x4 x6 σ := hq
      unfold wq_X9_next_57 at hq
      refine lv_iload hx hb1 dX9_next_57 (lv_at hl 6 rfl) ?_
      refine lv_aload_n hx hb1 dX9_next_59 rfl (lv_at hl 0 rfl) ?_
      refine hh_geti X h (q := 13) fm_0_13 rfl in_X9_next_X9 km_0 (by decide) (List.mem_of_getElem? (i := 3) rfl) rfl dX9_next_60 ?_
      refine lv_icmp_ge (tgt := 146) hx hb1 dX9_next_63 (by decide) (fun c1 => ?_) (fun c1 => ?_)
      · have hq := hq.1 c1
        refine lv_iinc (v := (x5 + (1 : Int32))) (lv' := [(5, .int (x5 + (1 : Int32))), (0, .ref (ad 0)), (1, .int x1), (2, .int x2), (3, .int x3), (4, .int x4), (6, .int x6)]) hx hb1 dX9_next_146 hl (k := 5) rfl rfl (by decide) rfl (fun ls hl => ?_)
        refine lv_goto (tgt := 45) hx hb1 dX9_next_149 (by decide) ?_
        exact hK45 x2 x3 x4 (x5 + (1 : Int32)) σ _ _ ls hq h (lv_sub hl [1, 2, 3, 4, 5, 0] rfl)
      · have hq := hq.2 c1
        refine lv_aload_n hx hb1 dX9_next_66 rfl (lv_at hl 0 rfl) ?_
        refine lv_iload hx hb1 dX9_next_67 (lv_at hl 5 rfl) ?_
        refine hh_kI h (va_runV (As := [.int x5]) (rest := []) X.1 (ad_X9_fixed (D := D) l J x5 σ _ hq) (cwV 1 X.1.2.2.2.2 gX9_next_X9_fixed rfl rfl rfl nd_X9_fixed ⟨Nat.le_of_ble_eq_true rfl, Nat.le_of_ble_eq_true rfl⟩) (hh_preV X h fm_0_0 km_0 [.int x5]) rfl rfl hl.1 rfl (lv_room (Nat.le_of_ble_eq_true rfl)) dX9_next_69 ⟨Nat.le_of_ble_eq_true rfl, Nat.le_of_ble_eq_true rfl⟩) (fun r2 σ3 H locs hq h => ?_)
        refine lv_if_ge (tgt := 146) hx hb1 dX9_next_72 (by decide) (fun c4 => ?_) (fun c4 => ?_)
        · have hq := hq.1 c4
          refine lv_iinc (v := (x5 + (1 : Int32))) (lv' := [(5, .int (x5 + (1 : Int32))), (0, .ref (ad 0)), (1, .int x1), (2, .int x2), (3, .int x3), (4, .int x4), (6, .int x6)]) hx hb1 dX9_next_146 hl (k := 5) rfl rfl (by decide) rfl (fun ls hl => ?_)
          refine lv_goto (tgt := 45) hx hb1 dX9_next_149 (by decide) ?_
          exact hK45 x2 x3 x4 (x5 + (1 : Int32)) σ3 _ _ ls hq h (lv_sub hl [1, 2, 3, 4, 5, 0] rfl)
        · have hq := hq.2 c4
          refine lv_aload_n hx hb1 dX9_next_75 rfl (lv_at hl 0 rfl) ?_
          refine lv_iload hx hb1 dX9_next_76 (lv_at hl 5 rfl) ?_
          refine hh_kI h (va_runV (As := [.int x5]) (rest := []) X.1 (ad_X9_isOpen (D := D) l J x5 σ3 _ hq) (cwV 1 X.1.2.2.2.2 gX9_next_X9_isOpen rfl rfl rfl nd_X9_isOpen ⟨Nat.le_of_ble_eq_true rfl, Nat.le_of_ble_eq_true rfl⟩) (hh_preV X h fm_0_0 km_0 [.int x5]) rfl rfl hl.1 rfl (lv_room (Nat.le_of_ble_eq_true rfl)) dX9_next_78 ⟨Nat.le_of_ble_eq_true rfl, Nat.le_of_ble_eq_true rfl⟩) (fun r5 σ6 H locs hq h => ?_)
          refine lv_if_eq (tgt := 146) hx hb1 dX9_next_81 (by decide) (fun c7 => ?_) (fun c7 => ?_)
          · have hq := hq.1 c7
            refine lv_iinc (v := (x5 + (1 : Int32))) (lv' := [(5, .int (x5 + (1 : Int32))), (0, .ref (ad 0)), (1, .int x1), (2, .int x2), (3, .int x3), (4, .int x4), (6, .int x6)]) hx hb1 dX9_next_146 hl (k := 5) rfl rfl (by decide) rfl (fun ls hl => ?_)
            refine lv_goto (tgt := 45) hx hb1 dX9_next_149 (by decide) ?_
            exact hK45 x2 x3 x4 (x5 + (1 : Int32)) σ6 _ _ ls hq h (lv_sub hl [1, 2, 3, 4, 5, 0] rfl)
          · have hq := hq.2 c7
            refine lv_aload_n hx hb1 dX9_next_84 rfl (lv_at hl 0 rfl) ?_
            refine hh_getr X h fm_0_14 in_X9_next_X9 km_0 (by decide) (List.mem_of_getElem? (i := 5) rfl) rfl dX9_next_85 ?_
            refine lv_iload hx hb1 dX9_next_88 (lv_at hl 6 rfl) ?_
            obtain ⟨h8, hq⟩ := hq
            refine hh_zld X h am_11 h8 dX9_next_90 ?_
            refine lv_if_ne (tgt := 110) hx hb1 dX9_next_91 (by decide) (fun c9 => ?_) (fun c9 => ?_)
            · have hq := hq.1 c9
              refine lv_iconst (v := (0 : Int32)) hx hb1 dX9_next_110 (by decide) ?_
              refine lv_goto (tgt := 122) hx hb1 dX9_next_111 (by decide) ?_
              refine lv_istore (lv' := [(7, .int (0 : Int32)), (0, .ref (ad 0)), (1, .int x1), (2, .int x2), (3, .int x3), (4, .int x4), (5, .int x5), (6, .int x6)]) hx hb1 dX9_next_122 hl (by decide) rfl (fun ls hl => ?_)
              refine lv_iload hx hb1 dX9_next_124 (lv_at hl 0 rfl) ?_
              refine lv_iload_n hx hb1 dX9_next_126 rfl (lv_at hl 3 rfl) ?_
              refine lv_icmp_le (tgt := 140) hx hb1 dX9_next_127 (by decide) (fun c10 => ?_) (fun c10 => ?_)
              · have hq := hq.1 c10
                refine lv_iinc (v := (x6 + (1 : Int32))) (lv' := [(6, .int (x6 + (1 : Int32))), (7, .int (0 : Int32)), (0, .ref (ad 0)), (1, .int x1), (2, .int x2), (3, .int x3), (4, .int x4), (5, .int x5)]) hx hb1 dX9_next_140 hl (k := 7) rfl rfl (by decide) rfl (fun ls hl => ?_)
                refine lv_goto (tgt := 57) hx hb1 dX9_next_143 (by decide) ?_
                exact ih x2 x3 x4 (x6 + (1 : Int32)) σ6 _ _ ls hq h (lv_sub hl [2, 3, 4, 5, 6, 7, 0] rfl)
              · have hq := hq.2 c10
                refine lv_iload hx hb1 dX9_next_130 (lv_at hl 0 rfl) ?_
                refine lv_istore_n (lv' := [(2, .int (0 : Int32)), (7, .int (0 : Int32)), (0, .ref (ad 0)), (1, .int x1), (3, .int x3), (4, .int x4), (5, .int x5), (6, .int x6)]) hx hb1 dX9_next_132 rfl hl (by decide) rfl (fun ls hl => ?_)
                refine lv_iload hx hb1 dX9_next_133 (lv_at hl 6 rfl) ?_
                refine lv_istore_n (lv' := [(3, .int x5), (2, .int (0 : Int32)), (7, .int (0 : Int32)), (0, .ref (ad 0)), (1, .int x1), (4, .int x4), (5, .int x5), (6, .int x6)]) hx hb1 dX9_next_135 rfl hl (by decide) rfl (fun ls hl => ?_)
                refine lv_iload hx hb1 dX9_next_136 (lv_at hl 7 rfl) ?_
                refine lv_istore (lv' := [(4, .int x6), (3, .int x5), (2, .int (0 : Int32)), (7, .int (0 : Int32)), (0, .ref (ad 0)), (1, .int x1), (5, .int x5), (6, .int x6)]) hx hb1 dX9_next_138 hl (by decide) rfl (fun ls hl => ?_)
                refine lv_iinc (v := (x6 + (1 : Int32))) (lv' := [(6, .int (x6 + (1 : Int32))), (4, .int x6), (3, .int x5), (2, .int (0 : Int32)), (7, .int (0 : Int32)), (0, .ref (ad 0)), (1, .int x1), (5, .int x5)]) hx hb1 dX9_next_140 hl (k := 7) rfl rfl (by decide) rfl (fun ls hl => ?_)
                refine lv_goto (tgt := 57) hx hb1 dX9_next_143 (by decide) ?_
                exact ih (0 : Int32) x5 x6 (x6 + (1 : Int32)) σ6 _ _ ls hq h (lv_sub hl [5, 6, 3, 2, 1, 7, 0] rfl)
            · have hq := hq.2 c9
              refine lv_aload_n hx hb1 dX9_next_94 rfl (lv_at hl 0 rfl) ?_
              refine hh_getr X h fm_0_16 in_X9_next_X9 km_0 (by decide) (List.mem_of_getElem? (i := 6) rfl) rfl dX9_next_95 ?_
              refine lv_bipush (v := (24 : Int32)) hx hb1 dX9_next_98 (by decide) ?_
              refine lv_iload hx hb1 dX9_next_100 (lv_at hl 6 rfl) ?_
              refine lv_imul hx hb1 dX9_next_102 ?_
              refine lv_iload hx hb1 dX9_next_103 (lv_at hl 5 rfl) ?_
              refine lv_iadd hx hb1 dX9_next_105 ?_
              obtain ⟨h11, hq⟩ := hq
              refine hh_ild X h am_13 h11 dX9_next_106 ?_
              refine lv_if_le (tgt := 114) hx hb1 dX9_next_107 (by decide) (fun c12 => ?_) (fun c12 => ?_)
              · have hq := hq.1 c12
                refine lv_aload_n hx hb1 dX9_next_114 rfl (lv_at hl 0 rfl) ?_
                refine lv_iload hx hb1 dX9_next_115 (lv_at hl 6 rfl) ?_
                refine lv_iload hx hb1 dX9_next_117 (lv_at hl 5 rfl) ?_
                refine hh_kI h (va_runV (As := [.int x6, .int x5]) (rest := []) X.1 (ad_X9_helpOf (D := D) l J x6 x5 σ6 _ hq) (cwV 2 X.1.2.2.2.2 gX9_next_X9_helpOf rfl rfl rfl nd_X9_helpOf ⟨Nat.le_of_ble_eq_true rfl, Nat.le_of_ble_eq_true rfl⟩) (hh_preV X h fm_0_0 km_0 [.int x6, .int x5]) rfl rfl hl.1 rfl (lv_room (Nat.le_of_ble_eq_true rfl)) dX9_next_119 ⟨Nat.le_of_ble_eq_true rfl, Nat.le_of_ble_eq_true rfl⟩) (fun r13 σ14 H locs hq h => ?_)
                refine lv_istore (lv' := [(7, .int r13), (0, .ref (ad 0)), (1, .int x1), (2, .int x2), (3, .int x3), (4, .int x4), (5, .int x5), (6, .int x6)]) hx hb1 dX9_next_122 hl (by decide) rfl (fun ls hl => ?_)
                refine lv_iload hx hb1 dX9_next_124 (lv_at hl 0 rfl) ?_
                refine lv_iload_n hx hb1 dX9_next_126 rfl (lv_at hl 3 rfl) ?_
                refine lv_icmp_le (tgt := 140) hx hb1 dX9_next_127 (by decide) (fun c15 => ?_) (fun c15 => ?_)
                · have hq := hq.1 c15
                  refine lv_iinc (v := (x6 + (1 : Int32))) (lv' := [(6, .int (x6 + (1 : Int32))), (7, .int r13), (0, .ref (ad 0)), (1, .int x1), (2, .int x2), (3, .int x3), (4, .int x4), (5, .int x5)]) hx hb1 dX9_next_140 hl (k := 7) rfl rfl (by decide) rfl (fun ls hl => ?_)
                  refine lv_goto (tgt := 57) hx hb1 dX9_next_143 (by decide) ?_
                  exact ih x2 x3 x4 (x6 + (1 : Int32)) σ14 _ _ ls hq h (lv_sub hl [2, 3, 4, 5, 6, 7, 0] rfl)
                · have hq := hq.2 c15
                  refine lv_iload hx hb1 dX9_next_130 (lv_at hl 0 rfl) ?_
                  refine lv_istore_n (lv' := [(2, .int r13), (7, .int r13), (0, .ref (ad 0)), (1, .int x1), (3, .int x3), (4, .int x4), (5, .int x5), (6, .int x6)]) hx hb1 dX9_next_132 rfl hl (by decide) rfl (fun ls hl => ?_)
                  refine lv_iload hx hb1 dX9_next_133 (lv_at hl 6 rfl) ?_
                  refine lv_istore_n (lv' := [(3, .int x5), (2, .int r13), (7, .int r13), (0, .ref (ad 0)), (1, .int x1), (4, .int x4), (5, .int x5), (6, .int x6)]) hx hb1 dX9_next_135 rfl hl (by decide) rfl (fun ls hl => ?_)
                  refine lv_iload hx hb1 dX9_next_136 (lv_at hl 7 rfl) ?_
                  refine lv_istore (lv' := [(4, .int x6), (3, .int x5), (2, .int r13), (7, .int r13), (0, .ref (ad 0)), (1, .int x1), (5, .int x5), (6, .int x6)]) hx hb1 dX9_next_138 hl (by decide) rfl (fun ls hl => ?_)
                  refine lv_iinc (v := (x6 + (1 : Int32))) (lv' := [(6, .int (x6 + (1 : Int32))), (4, .int x6), (3, .int x5), (2, .int r13), (7, .int r13), (0, .ref (ad 0)), (1, .int x1), (5, .int x5)]) hx hb1 dX9_next_140 hl (k := 7) rfl rfl (by decide) rfl (fun ls hl => ?_)
                  refine lv_goto (tgt := 57) hx hb1 dX9_next_143 (by decide) ?_
                  exact ih r13 x5 x6 (x6 + (1 : Int32)) σ14 _ _ ls hq h (lv_sub hl [5, 6, 3, 2, 1, 7, 0] rfl)
              · have hq := hq.2 c12
                refine lv_iconst (v := (0 : Int32)) hx hb1 dX9_next_110 (by decide) ?_
                refine lv_goto (tgt := 122) hx hb1 dX9_next_111 (by decide) ?_
                refine lv_istore (lv' := [(7, .int (0 : Int32)), (0, .ref (ad 0)), (1, .int x1), (2, .int x2), (3, .int x3), (4, .int x4), (5, .int x5), (6, .int x6)]) hx hb1 dX9_next_122 hl (by decide) rfl (fun ls hl => ?_)
                refine lv_iload hx hb1 dX9_next_124 (lv_at hl 0 rfl) ?_
                refine lv_iload_n hx hb1 dX9_next_126 rfl (lv_at hl 3 rfl) ?_
                refine lv_icmp_le (tgt := 140) hx hb1 dX9_next_127 (by decide) (fun c16 => ?_) (fun c16 => ?_)
                · have hq := hq.1 c16
                  refine lv_iinc (v := (x6 + (1 : Int32))) (lv' := [(6, .int (x6 + (1 : Int32))), (7, .int (0 : Int32)), (0, .ref (ad 0)), (1, .int x1), (2, .int x2), (3, .int x3), (4, .int x4), (5, .int x5)]) hx hb1 dX9_next_140 hl (k := 7) rfl rfl (by decide) rfl (fun ls hl => ?_)
                  refine lv_goto (tgt := 57) hx hb1 dX9_next_143 (by decide) ?_
                  exact ih x2 x3 x4 (x6 + (1 : Int32)) σ6 _ _ ls hq h (lv_sub hl [2, 3, 4, 5, 6, 7, 0] rfl)
                · have hq := hq.2 c16
                  refine lv_iload hx hb1 dX9_next_130 (lv_at hl 0 rfl) ?_
                  refine lv_istore_n (lv' := [(2, .int (0 : Int32)), (7, .int (0 : Int32)), (0, .ref (ad 0)), (1, .int x1), (3, .int x3), (4, .int x4), (5, .int x5), (6, .int x6)]) hx hb1 dX9_next_132 rfl hl (by decide) rfl (fun ls hl => ?_)
                  refine lv_iload hx hb1 dX9_next_133 (lv_at hl 6 rfl) ?_
                  refine lv_istore_n (lv' := [(3, .int x5), (2, .int (0 : Int32)), (7, .int (0 : Int32)), (0, .ref (ad 0)), (1, .int x1), (4, .int x4), (5, .int x5), (6, .int x6)]) hx hb1 dX9_next_135 rfl hl (by decide) rfl (fun ls hl => ?_)
                  refine lv_iload hx hb1 dX9_next_136 (lv_at hl 7 rfl) ?_
                  refine lv_istore (lv' := [(4, .int x6), (3, .int x5), (2, .int (0 : Int32)), (7, .int (0 : Int32)), (0, .ref (ad 0)), (1, .int x1), (5, .int x5), (6, .int x6)]) hx hb1 dX9_next_138 hl (by decide) rfl (fun ls hl => ?_)
                  refine lv_iinc (v := (x6 + (1 : Int32))) (lv' := [(6, .int (x6 + (1 : Int32))), (4, .int x6), (3, .int x5), (2, .int (0 : Int32)), (7, .int (0 : Int32)), (0, .ref (ad 0)), (1, .int x1), (5, .int x5)]) hx hb1 dX9_next_140 hl (k := 7) rfl rfl (by decide) rfl (fun ls hl => ?_)
                  refine lv_goto (tgt := 57) hx hb1 dX9_next_143 (by decide) ?_
                  exact ih (0 : Int32) x5 x6 (x6 + (1 : Int32)) σ6 _ _ ls hq h (lv_sub hl [5, 6, 3, 2, 1, 7, 0] rfl)
  have lt_45 : ∀ (x1 : Int32) (n : Nat) (x2 : Int32) (x3 : Int32) (x4 : Int32) (x5 : Int32) (σ : hh_S) (H : Heap) (locs : List Loc) (ls : Array Slot), hh_lp4 (wq_X9_next_45 x1 Q) n x2 x3 x4 x5 σ → hh_H D hh_cl hm_Y cy ad s.heap σ H locs → lv_has ls 8 [(0, .ref (ad 0)), (1, .int x1), (2, .int x2), (3, .int x3), (4, .int x4), (5, .int x5)] → W p l e (headSpec wsX9_next rm_X9_next).room s m args below meth c H locs 0 0 (MQ below (va_Qi Q (hh_B D hh_cl hm_Y cy ad) (hh_A hm_Y ad)) args s 0 0 (hh_A hm_Y ad)) (F0 m 45 ls []) := by
    intro x1 n
    induction n with
    | zero => intro x2 x3 x4 x5 σ H locs ls hq h hl; exact hq.elim
    | succ n ih =>
      intro x2 x3 x4 x5 σ H locs ls hq h hl
      have hq : wq_X9_next_45 x1 Q (hh_lp4 (wq_X9_next_45 x1 Q) n) x2 x3 x4 x5 σ := hq
      unfold wq_X9_next_45 at hq
      refine lv_iload hx hb1 dX9_next_45 (lv_at hl 5 rfl) ?_
      refine lv_aload_n hx hb1 dX9_next_47 rfl (lv_at hl 0 rfl) ?_
      refine hh_geti X h (q := 7) fm_0_7 rfl in_X9_next_X9 km_0 (by decide) (List.mem_of_getElem? (i := 4) rfl) rfl dX9_next_48 ?_
      refine lv_icmp_ge (tgt := 152) hx hb1 dX9_next_51 (by decide) (fun c17 => ?_) (fun c17 => ?_)
      · have hq := hq.1 c17
        refine lv_iload_n hx hb1 dX9_next_152 rfl (lv_at hl 3 rfl) ?_
        refine lv_if_ge (tgt := 161) hx hb1 dX9_next_153 (by decide) (fun c18 => ?_) (fun c18 => ?_)
        · have hq := hq.1 c18
          refine lv_iload_n hx hb1 dX9_next_161 rfl (lv_at hl 1 rfl) ?_
          refine lv_if_ne (tgt := 169) hx hb1 dX9_next_162 (by decide) (fun c19 => ?_) (fun c19 => ?_)
          · have hq := hq.1 c19
            refine lv_iload_n hx hb1 dX9_next_169 rfl (lv_at hl 1 rfl) ?_
            refine lv_iconst (v := (1 : Int32)) hx hb1 dX9_next_170 (by decide) ?_
            refine lv_icmp_ne (tgt := 179) hx hb1 dX9_next_171 (by decide) (fun c20 => ?_) (fun c20 => ?_)
            · have hq := hq.1 c20
              refine lv_iload_n hx hb1 dX9_next_179 rfl (lv_at hl 2 rfl) ?_
              exact hh_iret X h hr hlocks hq dX9_next_180
            · have hq := hq.2 c20
              refine lv_iload hx hb1 dX9_next_174 (lv_at hl 4 rfl) ?_
              refine lv_goto (tgt := 180) hx hb1 dX9_next_176 (by decide) ?_
              exact hh_iret X h hr hlocks hq dX9_next_180
          · have hq := hq.2 c19
            refine lv_iload_n hx hb1 dX9_next_165 rfl (lv_at hl 3 rfl) ?_
            refine lv_goto (tgt := 180) hx hb1 dX9_next_166 (by decide) ?_
            exact hh_iret X h hr hlocks hq dX9_next_180
        · have hq := hq.2 c18
          refine lv_bipush (v := (-6 : Int32)) hx hb1 dX9_next_156 (by decide) ?_
          refine lv_goto (tgt := 180) hx hb1 dX9_next_158 (by decide) ?_
          exact hh_iret X h hr hlocks hq dX9_next_180
      · have hq := hq.2 c17
        refine lv_iconst (v := (0 : Int32)) hx hb1 dX9_next_54 (by decide) ?_
        refine lv_istore (lv' := [(6, .int (0 : Int32)), (0, .ref (ad 0)), (1, .int x1), (2, .int x2), (3, .int x3), (4, .int x4), (5, .int x5)]) hx hb1 dX9_next_55 hl (by decide) rfl (fun ls hl => ?_)
        obtain ⟨n21, hq⟩ := hq
        exact lt_57 x1 x5 (hh_lp4 (wq_X9_next_45 x1 Q) n) ih n21 x2 x3 x4 (0 : Int32) σ _ _ ls hq h (lv_sub hl [1, 2, 3, 4, 5, 6, 0] rfl)
  subst hargs
  refine hh_entry (vs := [.ref (ad 0), .int x1]) (Nat.le_of_ble_eq_true rfl) (fun ls hl => ?_)
  have hl : lv_has ls 8 [(0, .ref (ad 0)), (1, .int x1)] := hl
  have hq : wp_X9_next x1 σ Q := hq
  unfold wp_X9_next at hq
  refine lv_iload_n hx hb1 dX9_next_0 rfl (lv_at hl 1 rfl) ?_
  refine lv_iconst (v := (0 : Int32)) hx hb1 dX9_next_1 (by decide) ?_
  refine lv_iconst (v := (2 : Int32)) hx hb1 dX9_next_2 (by decide) ?_
  refine hh_kI h (va_runS (As := [.int x1, .int (0 : Int32), .int (2 : Int32)]) (rest := []) X.1 (ad_X9_in (D := D) l J x1 (0 : Int32) (2 : Int32) σ _ hq) (va_cwS 3 X.1.2.2.2.2 gX9_next_X9_in rfl rfl rfl nd_X9_in ⟨Nat.le_of_ble_eq_true rfl, Nat.le_of_ble_eq_true rfl⟩) (hh_preS X h [.int x1, .int (0 : Int32), .int (2 : Int32)]) rfl rfl hl.1 rfl (lv_room (Nat.le_of_ble_eq_true rfl)) dX9_next_3 ⟨Nat.le_of_ble_eq_true rfl, Nat.le_of_ble_eq_true rfl⟩) (fun r22 σ23 H locs hq h => ?_)
  refine lv_if_ne (tgt := 12) hx hb1 dX9_next_6 (by decide) (fun c24 => ?_) (fun c24 => ?_)
  · have hq := hq.1 c24
    refine lv_aload_n hx hb1 dX9_next_12 rfl (lv_at hl 0 rfl) ?_
    refine hh_geti X h (q := 20) fm_0_20 rfl in_X9_next_X9 km_0 (by decide) (List.mem_of_getElem? (i := 1) rfl) rfl dX9_next_13 ?_
    refine lv_if_eq (tgt := 30) hx hb1 dX9_next_16 (by decide) (fun c25 => ?_) (fun c25 => ?_)
    · have hq := hq.1 c25
      refine lv_bipush (v := (-3 : Int32)) hx hb1 dX9_next_30 (by decide) ?_
      exact hh_iret X h hr hlocks hq dX9_next_32
    · have hq := hq.2 c25
      refine lv_aload_n hx hb1 dX9_next_19 rfl (lv_at hl 0 rfl) ?_
      refine hh_geti X h (q := 22) fm_0_22 rfl in_X9_next_X9 km_0 (by decide) (List.mem_of_getElem? (i := 2) rfl) rfl dX9_next_20 ?_
      refine lv_aload_n hx hb1 dX9_next_23 rfl (lv_at hl 0 rfl) ?_
      refine hh_geti X h (q := 13) fm_0_13 rfl in_X9_next_X9 km_0 (by decide) (List.mem_of_getElem? (i := 3) rfl) rfl dX9_next_24 ?_
      refine lv_icmp_ge (tgt := 33) hx hb1 dX9_next_27 (by decide) (fun c26 => ?_) (fun c26 => ?_)
      · have hq := hq.1 c26
        refine lv_iconst (v := (0 : Int32)) hx hb1 dX9_next_33 (by decide) ?_
        refine lv_istore_n (lv' := [(2, .int (0 : Int32)), (0, .ref (ad 0)), (1, .int x1)]) hx hb1 dX9_next_34 rfl hl (by decide) rfl (fun ls hl => ?_)
        refine lv_bipush (v := (-6 : Int32)) hx hb1 dX9_next_35 (by decide) ?_
        refine lv_istore_n (lv' := [(3, .int (-6 : Int32)), (2, .int (0 : Int32)), (0, .ref (ad 0)), (1, .int x1)]) hx hb1 dX9_next_37 rfl hl (by decide) rfl (fun ls hl => ?_)
        refine lv_bipush (v := (-6 : Int32)) hx hb1 dX9_next_38 (by decide) ?_
        refine lv_istore (lv' := [(4, .int (-6 : Int32)), (3, .int (-6 : Int32)), (2, .int (0 : Int32)), (0, .ref (ad 0)), (1, .int x1)]) hx hb1 dX9_next_40 hl (by decide) rfl (fun ls hl => ?_)
        refine lv_iconst (v := (0 : Int32)) hx hb1 dX9_next_42 (by decide) ?_
        refine lv_istore (lv' := [(5, .int (0 : Int32)), (4, .int (-6 : Int32)), (3, .int (-6 : Int32)), (2, .int (0 : Int32)), (0, .ref (ad 0)), (1, .int x1)]) hx hb1 dX9_next_43 hl (by decide) rfl (fun ls hl => ?_)
        obtain ⟨n27, hq⟩ := hq
        exact lt_45 x1 n27 (0 : Int32) (-6 : Int32) (-6 : Int32) (0 : Int32) σ23 _ _ ls hq h (lv_sub hl [4, 5, 3, 2, 1, 0] rfl)
      · have hq := hq.2 c26
        refine lv_bipush (v := (-3 : Int32)) hx hb1 dX9_next_30 (by decide) ?_
        exact hh_iret X h hr hlocks hq dX9_next_32
  · have hq := hq.2 c24
    refine lv_bipush (v := (-2 : Int32)) hx hb1 dX9_next_9 (by decide) ?_
    exact hh_iret X h hr hlocks hq dX9_next_11
theorem nd_X9_isRight : yX9_isRight.cls = RX9 ∧ yX9_isRight.cls ≠ "java/lang/invoke/MethodHandle" ∧ yX9_isRight.cls ≠ "java/lang/invoke/VarHandle" ∧ (parseMethodDescriptor yX9_isRight.desc).map (fun d => d.parameters.length) = some 2 := by decide +kernel
abbrev rm_X9_isRight : Room := { frames := 0, cells := 0, slots := 0, locals := 0 }
def wp_X9_isRight (x1 : Int32) (x2 : Int32) (σ : hh_S) (Q : Int32 → hh_S → Prop) : Prop := (vp_in (((24 : Int32) * x1) + x2) 240 ∧ (vp_in x2 24 ∧ ((¬ (hh_rA σ 13 (((24 : Int32) * x1) + x2)) = ((hh_rA σ 8 x2) + (1 : Int32)) → (Q (0 : Int32) σ)) ∧ ((hh_rA σ 13 (((24 : Int32) * x1) + x2)) = ((hh_rA σ 8 x2) + (1 : Int32)) → (Q (1 : Int32) σ)))))
theorem in_X9_isRight_X9 : ∀ w ∈ u_ws RX9 TX9 37, w ∈ wsX9_isRight := fun w h => List.mem_cons_of_mem _ (List.mem_append_right _ h)
set_option maxHeartbeats 4000000 in
set_option maxRecDepth 100000 in
theorem ad_X9_isRight {D : va_G} (l : Launch) {cy : Nat → ClassId} {ad : Nat → Nat} (J : hh_J hm_Y ad) (x1 : Int32) (x2 : Int32) (σ : hh_S) (Q : Int32 → hh_S → Prop) (hq : wp_X9_isRight x1 x2 σ Q) : Met l yX9_isRight wsX9_isRight rm_X9_isRight (va_Pc [.ref (ad 0), .int x1, .int x2] (hh_B D hh_cl hm_Y cy ad σ)) (va_Qi Q (hh_B D hh_cl hm_Y cy ad) (hh_A hm_Y ad)) 0 0 (hh_A hm_Y ad) := by
  refine Met.ofW (cc := cX9_isRight) (maxL := 3) (ret := (some .boolean)) (by decide) rfl ?_
  intro p e s m args below meth c s₁ B hml hv
  obtain ⟨hargs, hP0, hK0⟩ := hv
  have hr := B.returns
  have hlocks := B.notSynchronized
  have X : hh_X p m c cX9_isRight 3 s args wsX9_isRight RX9 D hh_cl hm_Y cy ad := ⟨⟨B.exec, B.bytes, hml, findClass_of_methodNamed B.named, atoms_spec (ws := wsX9_isRight) B.pre⟩, hK0, J⟩
  have hx := X.1.1
  have hb1 := X.1.2.1
  have h : hh_H D hh_cl hm_Y cy ad s.heap σ s.heap [] := ⟨hP0, va_S.rf⟩
  subst hargs
  refine hh_entry (vs := [.ref (ad 0), .int x1, .int x2]) (Nat.le_of_ble_eq_true rfl) (fun ls hl => ?_)
  have hl : lv_has ls 3 [(0, .ref (ad 0)), (1, .int x1), (2, .int x2)] := hl
  have hq : wp_X9_isRight x1 x2 σ Q := hq
  unfold wp_X9_isRight at hq
  refine lv_aload_n hx hb1 dX9_isRight_0 rfl (lv_at hl 0 rfl) ?_
  refine hh_getr X h fm_0_16 in_X9_isRight_X9 km_0 (by decide) (List.mem_of_getElem? (i := 1) rfl) rfl dX9_isRight_1 ?_
  refine lv_bipush (v := (24 : Int32)) hx hb1 dX9_isRight_4 (by decide) ?_
  refine lv_iload_n hx hb1 dX9_isRight_6 rfl (lv_at hl 1 rfl) ?_
  refine lv_imul hx hb1 dX9_isRight_7 ?_
  refine lv_iload_n hx hb1 dX9_isRight_8 rfl (lv_at hl 2 rfl) ?_
  refine lv_iadd hx hb1 dX9_isRight_9 ?_
  obtain ⟨h1, hq⟩ := hq
  refine hh_ild X h am_13 h1 dX9_isRight_10 ?_
  refine lv_aload_n hx hb1 dX9_isRight_11 rfl (lv_at hl 0 rfl) ?_
  refine hh_getr X h fm_0_10 in_X9_isRight_X9 km_0 (by decide) (List.mem_of_getElem? (i := 2) rfl) rfl dX9_isRight_12 ?_
  refine lv_iload_n hx hb1 dX9_isRight_15 rfl (lv_at hl 2 rfl) ?_
  obtain ⟨h2, hq⟩ := hq
  refine hh_ild X h am_8 h2 dX9_isRight_16 ?_
  refine lv_iconst (v := (1 : Int32)) hx hb1 dX9_isRight_17 (by decide) ?_
  refine lv_iadd hx hb1 dX9_isRight_18 ?_
  refine lv_icmp_ne (tgt := 26) hx hb1 dX9_isRight_19 (by decide) (fun c3 => ?_) (fun c3 => ?_)
  · have hq := hq.1 c3
    refine lv_iconst (v := (0 : Int32)) hx hb1 dX9_isRight_26 (by decide) ?_
    exact hh_zret X h hr hlocks rfl hq dX9_isRight_27
  · have hq := hq.2 c3
    refine lv_iconst (v := (1 : Int32)) hx hb1 dX9_isRight_22 (by decide) ?_
    refine lv_goto (tgt := 27) hx hb1 dX9_isRight_23 (by decide) ?_
    exact hh_zret X h hr hlocks rfl hq dX9_isRight_27
theorem nd_X9_knownBy : yX9_knownBy.cls = RX9 ∧ yX9_knownBy.cls ≠ "java/lang/invoke/MethodHandle" ∧ yX9_knownBy.cls ≠ "java/lang/invoke/VarHandle" ∧ (parseMethodDescriptor yX9_knownBy.desc).map (fun d => d.parameters.length) = some 1 := by decide +kernel
abbrev rm_X9_knownBy : Room := { frames := 1, cells := 0, slots := 0, locals := 22 }
def wq_X9_knownBy_4 (x1 : Int32) (Q : Int32 → hh_S → Prop) (K4 : Int32 → Int32 → hh_S → Prop) (x2 : Int32) (x3 : Int32) (σ : hh_S) : Prop := (((hh_I σ 7) ≤ x3 → (Q x2 σ)) ∧ (¬ (hh_I σ 7) ≤ x3 → (vp_in x3 24 ∧ (((hh_rA σ 8 x3) < 0 → (∀ v4 : Int32, v4 = (x2 + (0 : Int32)) → (K4 v4 (x3 + (1 : Int32)) σ))) ∧ (¬ (hh_rA σ 8 x3) < 0 → (wp_X9_counts x1 x3 σ (fun (r5 : Int32) (σ6 : hh_S) => ((r5 = 0 → (∀ v8 : Int32, v8 = (x2 + (0 : Int32)) → (K4 v8 (x3 + (1 : Int32)) σ6))) ∧ (¬ r5 = 0 → (∀ v9 : Int32, v9 = (x2 + (1 : Int32)) → (K4 v9 (x3 + (1 : Int32)) σ6)))))))))))
def wp_X9_knownBy (x1 : Int32) (σ : hh_S) (Q : Int32 → hh_S → Prop) : Prop := (∃ n : Nat, hh_lp2 (wq_X9_knownBy_4 x1 Q) n (0 : Int32) (0 : Int32) σ)
theorem in_X9_knownBy_X9 : ∀ w ∈ u_ws RX9 TX9 37, w ∈ wsX9_knownBy := fun w h => List.mem_cons_of_mem _ (List.mem_append_right _ h)
set_option maxHeartbeats 4000000 in
set_option maxRecDepth 100000 in
theorem ad_X9_knownBy {D : va_G} (l : Launch) {cy : Nat → ClassId} {ad : Nat → Nat} (J : hh_J hm_Y ad) (x1 : Int32) (σ : hh_S) (Q : Int32 → hh_S → Prop) (hq : wp_X9_knownBy x1 σ Q) : Met l yX9_knownBy wsX9_knownBy rm_X9_knownBy (va_Pc [.ref (ad 0), .int x1] (hh_B D hh_cl hm_Y cy ad σ)) (va_Qi Q (hh_B D hh_cl hm_Y cy ad) (hh_A hm_Y ad)) 0 0 (hh_A hm_Y ad) := by
  refine Met.ofW (cc := cX9_knownBy) (maxL := 4) (ret := (some .int)) (by decide) rfl ?_
  intro p e s m args below meth c s₁ B hml hv
  obtain ⟨hargs, hP0, hK0⟩ := hv
  have hr := B.returns
  have hlocks := B.notSynchronized
  have X : hh_X p m c cX9_knownBy 4 s args wsX9_knownBy RX9 D hh_cl hm_Y cy ad := ⟨⟨B.exec, B.bytes, hml, findClass_of_methodNamed B.named, atoms_spec (ws := wsX9_knownBy) B.pre⟩, hK0, J⟩
  have hx := X.1.1
  have hb1 := X.1.2.1
  have h : hh_H D hh_cl hm_Y cy ad s.heap σ s.heap [] := ⟨hP0, va_S.rf⟩
  have lt_4 : ∀ (x1 : Int32) (n : Nat) (x2 : Int32) (x3 : Int32) (σ : hh_S) (H : Heap) (locs : List Loc) (ls : Array Slot), hh_lp2 (wq_X9_knownBy_4 x1 Q) n x2 x3 σ → hh_H D hh_cl hm_Y cy ad s.heap σ H locs → lv_has ls 4 [(0, .ref (ad 0)), (1, .int x1), (2, .int x2), (3, .int x3)] → W p l e (headSpec wsX9_knownBy rm_X9_knownBy).room s m args below meth c H locs 0 0 (MQ below (va_Qi Q (hh_B D hh_cl hm_Y cy ad) (hh_A hm_Y ad)) args s 0 0 (hh_A hm_Y ad)) (F0 m 4 ls []) := by
    intro x1 n
    induction n with
    | zero => intro x2 x3 σ H locs ls hq h hl; exact hq.elim
    | succ n ih =>
      intro x2 x3 σ H locs ls hq h hl
      have hq : wq_X9_knownBy_4 x1 Q (hh_lp2 (wq_X9_knownBy_4 x1 Q) n) x2 x3 σ := hq
      unfold wq_X9_knownBy_4 at hq
      refine lv_iload_n hx hb1 dX9_knownBy_4 rfl (lv_at hl 3 rfl) ?_
      refine lv_aload_n hx hb1 dX9_knownBy_5 rfl (lv_at hl 0 rfl) ?_
      refine hh_geti X h (q := 7) fm_0_7 rfl in_X9_knownBy_X9 km_0 (by decide) (List.mem_of_getElem? (i := 1) rfl) rfl dX9_knownBy_6 ?_
      refine lv_icmp_ge (tgt := 44) hx hb1 dX9_knownBy_9 (by decide) (fun c1 => ?_) (fun c1 => ?_)
      · have hq := hq.1 c1
        refine lv_iload_n hx hb1 dX9_knownBy_44 rfl (lv_at hl 2 rfl) ?_
        exact hh_iret X h hr hlocks hq dX9_knownBy_45
      · have hq := hq.2 c1
        refine lv_iload_n hx hb1 dX9_knownBy_12 rfl (lv_at hl 2 rfl) ?_
        refine lv_aload_n hx hb1 dX9_knownBy_13 rfl (lv_at hl 0 rfl) ?_
        refine hh_getr X h fm_0_10 in_X9_knownBy_X9 km_0 (by decide) (List.mem_of_getElem? (i := 2) rfl) rfl dX9_knownBy_14 ?_
        refine lv_iload_n hx hb1 dX9_knownBy_17 rfl (lv_at hl 3 rfl) ?_
        obtain ⟨h2, hq⟩ := hq
        refine hh_ild X h am_8 h2 dX9_knownBy_18 ?_
        refine lv_if_lt (tgt := 35) hx hb1 dX9_knownBy_19 (by decide) (fun c3 => ?_) (fun c3 => ?_)
        · have hq := hq.1 c3
          refine lv_iconst (v := (0 : Int32)) hx hb1 dX9_knownBy_35 (by decide) ?_
          refine lv_iadd hx hb1 dX9_knownBy_36 ?_
          refine lv_topi (fun v4 ev4 => ?_)
          have hq := hq v4 ev4
          refine lv_istore_n (lv' := [(2, .int v4), (0, .ref (ad 0)), (1, .int x1), (3, .int x3)]) hx hb1 dX9_knownBy_37 rfl hl (by decide) rfl (fun ls hl => ?_)
          refine lv_iinc (v := (x3 + (1 : Int32))) (lv' := [(3, .int (x3 + (1 : Int32))), (2, .int v4), (0, .ref (ad 0)), (1, .int x1)]) hx hb1 dX9_knownBy_38 hl (k := 3) rfl rfl (by decide) rfl (fun ls hl => ?_)
          refine lv_goto (tgt := 4) hx hb1 dX9_knownBy_41 (by decide) ?_
          exact ih v4 (x3 + (1 : Int32)) σ _ _ ls hq h (lv_sub hl [2, 3, 1, 0] rfl)
        · have hq := hq.2 c3
          refine lv_aload_n hx hb1 dX9_knownBy_22 rfl (lv_at hl 0 rfl) ?_
          refine lv_iload_n hx hb1 dX9_knownBy_23 rfl (lv_at hl 1 rfl) ?_
          refine lv_iload_n hx hb1 dX9_knownBy_24 rfl (lv_at hl 3 rfl) ?_
          refine hh_kI h (va_runV (As := [.int x1, .int x3]) (rest := [.int x2]) X.1 (ad_X9_counts (D := D) l J x1 x3 σ _ hq) (cwV 2 X.1.2.2.2.2 gX9_knownBy_X9_counts rfl rfl rfl nd_X9_counts ⟨Nat.le_of_ble_eq_true rfl, Nat.le_of_ble_eq_true rfl⟩) (hh_preV X h fm_0_0 km_0 [.int x1, .int x3]) rfl rfl hl.1 rfl (lv_room (Nat.le_of_ble_eq_true rfl)) dX9_knownBy_25 ⟨Nat.le_of_ble_eq_true rfl, Nat.le_of_ble_eq_true rfl⟩) (fun r5 σ6 H locs hq h => ?_)
          refine lv_if_eq (tgt := 35) hx hb1 dX9_knownBy_28 (by decide) (fun c7 => ?_) (fun c7 => ?_)
          · have hq := hq.1 c7
            refine lv_iconst (v := (0 : Int32)) hx hb1 dX9_knownBy_35 (by decide) ?_
            refine lv_iadd hx hb1 dX9_knownBy_36 ?_
            refine lv_topi (fun v8 ev8 => ?_)
            have hq := hq v8 ev8
            refine lv_istore_n (lv' := [(2, .int v8), (0, .ref (ad 0)), (1, .int x1), (3, .int x3)]) hx hb1 dX9_knownBy_37 rfl hl (by decide) rfl (fun ls hl => ?_)
            refine lv_iinc (v := (x3 + (1 : Int32))) (lv' := [(3, .int (x3 + (1 : Int32))), (2, .int v8), (0, .ref (ad 0)), (1, .int x1)]) hx hb1 dX9_knownBy_38 hl (k := 3) rfl rfl (by decide) rfl (fun ls hl => ?_)
            refine lv_goto (tgt := 4) hx hb1 dX9_knownBy_41 (by decide) ?_
            exact ih v8 (x3 + (1 : Int32)) σ6 _ _ ls hq h (lv_sub hl [2, 3, 1, 0] rfl)
          · have hq := hq.2 c7
            refine lv_iconst (v := (1 : Int32)) hx hb1 dX9_knownBy_31 (by decide) ?_
            refine lv_goto (tgt := 36) hx hb1 dX9_knownBy_32 (by decide) ?_
            refine lv_iadd hx hb1 dX9_knownBy_36 ?_
            refine lv_topi (fun v9 ev9 => ?_)
            have hq := hq v9 ev9
            refine lv_istore_n (lv' := [(2, .int v9), (0, .ref (ad 0)), (1, .int x1), (3, .int x3)]) hx hb1 dX9_knownBy_37 rfl hl (by decide) rfl (fun ls hl => ?_)
            refine lv_iinc (v := (x3 + (1 : Int32))) (lv' := [(3, .int (x3 + (1 : Int32))), (2, .int v9), (0, .ref (ad 0)), (1, .int x1)]) hx hb1 dX9_knownBy_38 hl (k := 3) rfl rfl (by decide) rfl (fun ls hl => ?_)
            refine lv_goto (tgt := 4) hx hb1 dX9_knownBy_41 (by decide) ?_
            exact ih v9 (x3 + (1 : Int32)) σ6 _ _ ls hq h (lv_sub hl [2, 3, 1, 0] rfl)
  subst hargs
  refine hh_entry (vs := [.ref (ad 0), .int x1]) (Nat.le_of_ble_eq_true rfl) (fun ls hl => ?_)
  have hl : lv_has ls 4 [(0, .ref (ad 0)), (1, .int x1)] := hl
  have hq : wp_X9_knownBy x1 σ Q := hq
  unfold wp_X9_knownBy at hq
  refine lv_iconst (v := (0 : Int32)) hx hb1 dX9_knownBy_0 (by decide) ?_
  refine lv_istore_n (lv' := [(2, .int (0 : Int32)), (0, .ref (ad 0)), (1, .int x1)]) hx hb1 dX9_knownBy_1 rfl hl (by decide) rfl (fun ls hl => ?_)
  refine lv_iconst (v := (0 : Int32)) hx hb1 dX9_knownBy_2 (by decide) ?_
  refine lv_istore_n (lv' := [(3, .int (0 : Int32)), (2, .int (0 : Int32)), (0, .ref (ad 0)), (1, .int x1)]) hx hb1 dX9_knownBy_3 rfl hl (by decide) rfl (fun ls hl => ?_)
  obtain ⟨n10, hq⟩ := hq
  exact lt_4 x1 n10 (0 : Int32) (0 : Int32) σ _ _ ls hq h (lv_sub hl [2, 3, 1, 0] rfl)
theorem nd_X9_rightBy : yX9_rightBy.cls = RX9 ∧ yX9_rightBy.cls ≠ "java/lang/invoke/MethodHandle" ∧ yX9_rightBy.cls ≠ "java/lang/invoke/VarHandle" ∧ (parseMethodDescriptor yX9_rightBy.desc).map (fun d => d.parameters.length) = some 1 := by decide +kernel
abbrev rm_X9_rightBy : Room := { frames := 1, cells := 0, slots := 0, locals := 22 }
def wq_X9_rightBy_4 (x1 : Int32) (Q : Int32 → hh_S → Prop) (K4 : Int32 → Int32 → hh_S → Prop) (x2 : Int32) (x3 : Int32) (σ : hh_S) : Prop := (((hh_I σ 7) ≤ x3 → (Q x2 σ)) ∧ (¬ (hh_I σ 7) ≤ x3 → (vp_in x3 24 ∧ (((hh_rA σ 8 x3) < 0 → (∀ v4 : Int32, v4 = (x2 + (0 : Int32)) → (K4 v4 (x3 + (1 : Int32)) σ))) ∧ (¬ (hh_rA σ 8 x3) < 0 → (wp_X9_counts x1 x3 σ (fun (r5 : Int32) (σ6 : hh_S) => ((r5 = 0 → (∀ v8 : Int32, v8 = (x2 + (0 : Int32)) → (K4 v8 (x3 + (1 : Int32)) σ6))) ∧ (¬ r5 = 0 → (wp_X9_isRight x1 x3 σ6 (fun (r9 : Int32) (σ10 : hh_S) => ((r9 = 0 → (∀ v12 : Int32, v12 = (x2 + (0 : Int32)) → (K4 v12 (x3 + (1 : Int32)) σ10))) ∧ (¬ r9 = 0 → (∀ v13 : Int32, v13 = (x2 + (1 : Int32)) → (K4 v13 (x3 + (1 : Int32)) σ10)))))))))))))))
def wp_X9_rightBy (x1 : Int32) (σ : hh_S) (Q : Int32 → hh_S → Prop) : Prop := (∃ n : Nat, hh_lp2 (wq_X9_rightBy_4 x1 Q) n (0 : Int32) (0 : Int32) σ)
theorem in_X9_rightBy_X9 : ∀ w ∈ u_ws RX9 TX9 37, w ∈ wsX9_rightBy := fun w h => List.mem_cons_of_mem _ (List.mem_append_right _ h)
set_option maxHeartbeats 4000000 in
set_option maxRecDepth 100000 in
theorem ad_X9_rightBy {D : va_G} (l : Launch) {cy : Nat → ClassId} {ad : Nat → Nat} (J : hh_J hm_Y ad) (x1 : Int32) (σ : hh_S) (Q : Int32 → hh_S → Prop) (hq : wp_X9_rightBy x1 σ Q) : Met l yX9_rightBy wsX9_rightBy rm_X9_rightBy (va_Pc [.ref (ad 0), .int x1] (hh_B D hh_cl hm_Y cy ad σ)) (va_Qi Q (hh_B D hh_cl hm_Y cy ad) (hh_A hm_Y ad)) 0 0 (hh_A hm_Y ad) := by
  refine Met.ofW (cc := cX9_rightBy) (maxL := 4) (ret := (some .int)) (by decide) rfl ?_
  intro p e s m args below meth c s₁ B hml hv
  obtain ⟨hargs, hP0, hK0⟩ := hv
  have hr := B.returns
  have hlocks := B.notSynchronized
  have X : hh_X p m c cX9_rightBy 4 s args wsX9_rightBy RX9 D hh_cl hm_Y cy ad := ⟨⟨B.exec, B.bytes, hml, findClass_of_methodNamed B.named, atoms_spec (ws := wsX9_rightBy) B.pre⟩, hK0, J⟩
  have hx := X.1.1
  have hb1 := X.1.2.1
  have h : hh_H D hh_cl hm_Y cy ad s.heap σ s.heap [] := ⟨hP0, va_S.rf⟩
  have lt_4 : ∀ (x1 : Int32) (n : Nat) (x2 : Int32) (x3 : Int32) (σ : hh_S) (H : Heap) (locs : List Loc) (ls : Array Slot), hh_lp2 (wq_X9_rightBy_4 x1 Q) n x2 x3 σ → hh_H D hh_cl hm_Y cy ad s.heap σ H locs → lv_has ls 4 [(0, .ref (ad 0)), (1, .int x1), (2, .int x2), (3, .int x3)] → W p l e (headSpec wsX9_rightBy rm_X9_rightBy).room s m args below meth c H locs 0 0 (MQ below (va_Qi Q (hh_B D hh_cl hm_Y cy ad) (hh_A hm_Y ad)) args s 0 0 (hh_A hm_Y ad)) (F0 m 4 ls []) := by
    intro x1 n
    induction n with
    | zero => intro x2 x3 σ H locs ls hq h hl; exact hq.elim
    | succ n ih =>
      intro x2 x3 σ H locs ls hq h hl
      have hq : wq_X9_rightBy_4 x1 Q (hh_lp2 (wq_X9_rightBy_4 x1 Q) n) x2 x3 σ := hq
      unfold wq_X9_rightBy_4 at hq
      refine lv_iload_n hx hb1 dX9_rightBy_4 rfl (lv_at hl 3 rfl) ?_
      refine lv_aload_n hx hb1 dX9_rightBy_5 rfl (lv_at hl 0 rfl) ?_
      refine hh_geti X h (q := 7) fm_0_7 rfl in_X9_rightBy_X9 km_0 (by decide) (List.mem_of_getElem? (i := 1) rfl) rfl dX9_rightBy_6 ?_
      refine lv_icmp_ge (tgt := 53) hx hb1 dX9_rightBy_9 (by decide) (fun c1 => ?_) (fun c1 => ?_)
      · have hq := hq.1 c1
        refine lv_iload_n hx hb1 dX9_rightBy_53 rfl (lv_at hl 2 rfl) ?_
        exact hh_iret X h hr hlocks hq dX9_rightBy_54
      · have hq := hq.2 c1
        refine lv_iload_n hx hb1 dX9_rightBy_12 rfl (lv_at hl 2 rfl) ?_
        refine lv_aload_n hx hb1 dX9_rightBy_13 rfl (lv_at hl 0 rfl) ?_
        refine hh_getr X h fm_0_10 in_X9_rightBy_X9 km_0 (by decide) (List.mem_of_getElem? (i := 2) rfl) rfl dX9_rightBy_14 ?_
        refine lv_iload_n hx hb1 dX9_rightBy_17 rfl (lv_at hl 3 rfl) ?_
        obtain ⟨h2, hq⟩ := hq
        refine hh_ild X h am_8 h2 dX9_rightBy_18 ?_
        refine lv_if_lt (tgt := 44) hx hb1 dX9_rightBy_19 (by decide) (fun c3 => ?_) (fun c3 => ?_)
        · have hq := hq.1 c3
          refine lv_iconst (v := (0 : Int32)) hx hb1 dX9_rightBy_44 (by decide) ?_
          refine lv_iadd hx hb1 dX9_rightBy_45 ?_
          refine lv_topi (fun v4 ev4 => ?_)
          have hq := hq v4 ev4
          refine lv_istore_n (lv' := [(2, .int v4), (0, .ref (ad 0)), (1, .int x1), (3, .int x3)]) hx hb1 dX9_rightBy_46 rfl hl (by decide) rfl (fun ls hl => ?_)
          refine lv_iinc (v := (x3 + (1 : Int32))) (lv' := [(3, .int (x3 + (1 : Int32))), (2, .int v4), (0, .ref (ad 0)), (1, .int x1)]) hx hb1 dX9_rightBy_47 hl (k := 3) rfl rfl (by decide) rfl (fun ls hl => ?_)
          refine lv_goto (tgt := 4) hx hb1 dX9_rightBy_50 (by decide) ?_
          exact ih v4 (x3 + (1 : Int32)) σ _ _ ls hq h (lv_sub hl [2, 3, 1, 0] rfl)
        · have hq := hq.2 c3
          refine lv_aload_n hx hb1 dX9_rightBy_22 rfl (lv_at hl 0 rfl) ?_
          refine lv_iload_n hx hb1 dX9_rightBy_23 rfl (lv_at hl 1 rfl) ?_
          refine lv_iload_n hx hb1 dX9_rightBy_24 rfl (lv_at hl 3 rfl) ?_
          refine hh_kI h (va_runV (As := [.int x1, .int x3]) (rest := [.int x2]) X.1 (ad_X9_counts (D := D) l J x1 x3 σ _ hq) (cwV 2 X.1.2.2.2.2 gX9_rightBy_X9_counts rfl rfl rfl nd_X9_counts ⟨Nat.le_of_ble_eq_true rfl, Nat.le_of_ble_eq_true rfl⟩) (hh_preV X h fm_0_0 km_0 [.int x1, .int x3]) rfl rfl hl.1 rfl (lv_room (Nat.le_of_ble_eq_true rfl)) dX9_rightBy_25 ⟨Nat.le_of_ble_eq_true rfl, Nat.le_of_ble_eq_true rfl⟩) (fun r5 σ6 H locs hq h => ?_)
          refine lv_if_eq (tgt := 44) hx hb1 dX9_rightBy_28 (by decide) (fun c7 => ?_) (fun c7 => ?_)
          · have hq := hq.1 c7
            refine lv_iconst (v := (0 : Int32)) hx hb1 dX9_rightBy_44 (by decide) ?_
            refine lv_iadd hx hb1 dX9_rightBy_45 ?_
            refine lv_topi (fun v8 ev8 => ?_)
            have hq := hq v8 ev8
            refine lv_istore_n (lv' := [(2, .int v8), (0, .ref (ad 0)), (1, .int x1), (3, .int x3)]) hx hb1 dX9_rightBy_46 rfl hl (by decide) rfl (fun ls hl => ?_)
            refine lv_iinc (v := (x3 + (1 : Int32))) (lv' := [(3, .int (x3 + (1 : Int32))), (2, .int v8), (0, .ref (ad 0)), (1, .int x1)]) hx hb1 dX9_rightBy_47 hl (k := 3) rfl rfl (by decide) rfl (fun ls hl => ?_)
            refine lv_goto (tgt := 4) hx hb1 dX9_rightBy_50 (by decide) ?_
            exact ih v8 (x3 + (1 : Int32)) σ6 _ _ ls hq h (lv_sub hl [2, 3, 1, 0] rfl)
          · have hq := hq.2 c7
            refine lv_aload_n hx hb1 dX9_rightBy_31 rfl (lv_at hl 0 rfl) ?_
            refine lv_iload_n hx hb1 dX9_rightBy_32 rfl (lv_at hl 1 rfl) ?_
            refine lv_iload_n hx hb1 dX9_rightBy_33 rfl (lv_at hl 3 rfl) ?_
            refine hh_kI h (va_runV (As := [.int x1, .int x3]) (rest := [.int x2]) X.1 (ad_X9_isRight (D := D) l J x1 x3 σ6 _ hq) (cwV 2 X.1.2.2.2.2 gX9_rightBy_X9_isRight rfl rfl rfl nd_X9_isRight ⟨Nat.le_of_ble_eq_true rfl, Nat.le_of_ble_eq_true rfl⟩) (hh_preV X h fm_0_0 km_0 [.int x1, .int x3]) rfl rfl hl.1 rfl (lv_room (Nat.le_of_ble_eq_true rfl)) dX9_rightBy_34 ⟨Nat.le_of_ble_eq_true rfl, Nat.le_of_ble_eq_true rfl⟩) (fun r9 σ10 H locs hq h => ?_)
            refine lv_if_eq (tgt := 44) hx hb1 dX9_rightBy_37 (by decide) (fun c11 => ?_) (fun c11 => ?_)
            · have hq := hq.1 c11
              refine lv_iconst (v := (0 : Int32)) hx hb1 dX9_rightBy_44 (by decide) ?_
              refine lv_iadd hx hb1 dX9_rightBy_45 ?_
              refine lv_topi (fun v12 ev12 => ?_)
              have hq := hq v12 ev12
              refine lv_istore_n (lv' := [(2, .int v12), (0, .ref (ad 0)), (1, .int x1), (3, .int x3)]) hx hb1 dX9_rightBy_46 rfl hl (by decide) rfl (fun ls hl => ?_)
              refine lv_iinc (v := (x3 + (1 : Int32))) (lv' := [(3, .int (x3 + (1 : Int32))), (2, .int v12), (0, .ref (ad 0)), (1, .int x1)]) hx hb1 dX9_rightBy_47 hl (k := 3) rfl rfl (by decide) rfl (fun ls hl => ?_)
              refine lv_goto (tgt := 4) hx hb1 dX9_rightBy_50 (by decide) ?_
              exact ih v12 (x3 + (1 : Int32)) σ10 _ _ ls hq h (lv_sub hl [2, 3, 1, 0] rfl)
            · have hq := hq.2 c11
              refine lv_iconst (v := (1 : Int32)) hx hb1 dX9_rightBy_40 (by decide) ?_
              refine lv_goto (tgt := 45) hx hb1 dX9_rightBy_41 (by decide) ?_
              refine lv_iadd hx hb1 dX9_rightBy_45 ?_
              refine lv_topi (fun v13 ev13 => ?_)
              have hq := hq v13 ev13
              refine lv_istore_n (lv' := [(2, .int v13), (0, .ref (ad 0)), (1, .int x1), (3, .int x3)]) hx hb1 dX9_rightBy_46 rfl hl (by decide) rfl (fun ls hl => ?_)
              refine lv_iinc (v := (x3 + (1 : Int32))) (lv' := [(3, .int (x3 + (1 : Int32))), (2, .int v13), (0, .ref (ad 0)), (1, .int x1)]) hx hb1 dX9_rightBy_47 hl (k := 3) rfl rfl (by decide) rfl (fun ls hl => ?_)
              refine lv_goto (tgt := 4) hx hb1 dX9_rightBy_50 (by decide) ?_
              exact ih v13 (x3 + (1 : Int32)) σ10 _ _ ls hq h (lv_sub hl [2, 3, 1, 0] rfl)
  subst hargs
  refine hh_entry (vs := [.ref (ad 0), .int x1]) (Nat.le_of_ble_eq_true rfl) (fun ls hl => ?_)
  have hl : lv_has ls 4 [(0, .ref (ad 0)), (1, .int x1)] := hl
  have hq : wp_X9_rightBy x1 σ Q := hq
  unfold wp_X9_rightBy at hq
  refine lv_iconst (v := (0 : Int32)) hx hb1 dX9_rightBy_0 (by decide) ?_
  refine lv_istore_n (lv' := [(2, .int (0 : Int32)), (0, .ref (ad 0)), (1, .int x1)]) hx hb1 dX9_rightBy_1 rfl hl (by decide) rfl (fun ls hl => ?_)
  refine lv_iconst (v := (0 : Int32)) hx hb1 dX9_rightBy_2 (by decide) ?_
  refine lv_istore_n (lv' := [(3, .int (0 : Int32)), (2, .int (0 : Int32)), (0, .ref (ad 0)), (1, .int x1)]) hx hb1 dX9_rightBy_3 rfl hl (by decide) rfl (fun ls hl => ?_)
  obtain ⟨n14, hq⟩ := hq
  exact lt_4 x1 n14 (0 : Int32) (0 : Int32) σ _ _ ls hq h (lv_sub hl [2, 3, 1, 0] rfl)
theorem nd_X9_answersBy : yX9_answersBy.cls = RX9 ∧ yX9_answersBy.cls ≠ "java/lang/invoke/MethodHandle" ∧ yX9_answersBy.cls ≠ "java/lang/invoke/VarHandle" ∧ (parseMethodDescriptor yX9_answersBy.desc).map (fun d => d.parameters.length) = some 1 := by decide +kernel
abbrev rm_X9_answersBy : Room := { frames := 1, cells := 0, slots := 0, locals := 22 }
def wq_X9_answersBy_4 (x1 : Int32) (Q : Int32 → hh_S → Prop) (K4 : Int32 → Int32 → hh_S → Prop) (x2 : Int32) (x3 : Int32) (σ : hh_S) : Prop := (((hh_I σ 7) ≤ x3 → (Q x2 σ)) ∧ (¬ (hh_I σ 7) ≤ x3 → (wp_X9_counts x1 x3 σ (fun (r2 : Int32) (σ3 : hh_S) => ((r2 = 0 → (∀ v5 : Int32, v5 = (x2 + (0 : Int32)) → (K4 v5 (x3 + (1 : Int32)) σ3))) ∧ (¬ r2 = 0 → (∀ v6 : Int32, v6 = (x2 + (1 : Int32)) → (K4 v6 (x3 + (1 : Int32)) σ3))))))))
def wp_X9_answersBy (x1 : Int32) (σ : hh_S) (Q : Int32 → hh_S → Prop) : Prop := (∃ n : Nat, hh_lp2 (wq_X9_answersBy_4 x1 Q) n (0 : Int32) (0 : Int32) σ)
theorem in_X9_answersBy_X9 : ∀ w ∈ u_ws RX9 TX9 37, w ∈ wsX9_answersBy := fun w h => List.mem_cons_of_mem _ (List.mem_append_right _ h)
set_option maxHeartbeats 4000000 in
set_option maxRecDepth 100000 in
theorem ad_X9_answersBy {D : va_G} (l : Launch) {cy : Nat → ClassId} {ad : Nat → Nat} (J : hh_J hm_Y ad) (x1 : Int32) (σ : hh_S) (Q : Int32 → hh_S → Prop) (hq : wp_X9_answersBy x1 σ Q) : Met l yX9_answersBy wsX9_answersBy rm_X9_answersBy (va_Pc [.ref (ad 0), .int x1] (hh_B D hh_cl hm_Y cy ad σ)) (va_Qi Q (hh_B D hh_cl hm_Y cy ad) (hh_A hm_Y ad)) 0 0 (hh_A hm_Y ad) := by
  refine Met.ofW (cc := cX9_answersBy) (maxL := 4) (ret := (some .int)) (by decide) rfl ?_
  intro p e s m args below meth c s₁ B hml hv
  obtain ⟨hargs, hP0, hK0⟩ := hv
  have hr := B.returns
  have hlocks := B.notSynchronized
  have X : hh_X p m c cX9_answersBy 4 s args wsX9_answersBy RX9 D hh_cl hm_Y cy ad := ⟨⟨B.exec, B.bytes, hml, findClass_of_methodNamed B.named, atoms_spec (ws := wsX9_answersBy) B.pre⟩, hK0, J⟩
  have hx := X.1.1
  have hb1 := X.1.2.1
  have h : hh_H D hh_cl hm_Y cy ad s.heap σ s.heap [] := ⟨hP0, va_S.rf⟩
  have lt_4 : ∀ (x1 : Int32) (n : Nat) (x2 : Int32) (x3 : Int32) (σ : hh_S) (H : Heap) (locs : List Loc) (ls : Array Slot), hh_lp2 (wq_X9_answersBy_4 x1 Q) n x2 x3 σ → hh_H D hh_cl hm_Y cy ad s.heap σ H locs → lv_has ls 4 [(0, .ref (ad 0)), (1, .int x1), (2, .int x2), (3, .int x3)] → W p l e (headSpec wsX9_answersBy rm_X9_answersBy).room s m args below meth c H locs 0 0 (MQ below (va_Qi Q (hh_B D hh_cl hm_Y cy ad) (hh_A hm_Y ad)) args s 0 0 (hh_A hm_Y ad)) (F0 m 4 ls []) := by
    intro x1 n
    induction n with
    | zero => intro x2 x3 σ H locs ls hq h hl; exact hq.elim
    | succ n ih =>
      intro x2 x3 σ H locs ls hq h hl
      have hq : wq_X9_answersBy_4 x1 Q (hh_lp2 (wq_X9_answersBy_4 x1 Q) n) x2 x3 σ := hq
      unfold wq_X9_answersBy_4 at hq
      refine lv_iload_n hx hb1 dX9_answersBy_4 rfl (lv_at hl 3 rfl) ?_
      refine lv_aload_n hx hb1 dX9_answersBy_5 rfl (lv_at hl 0 rfl) ?_
      refine hh_geti X h (q := 7) fm_0_7 rfl in_X9_answersBy_X9 km_0 (by decide) (List.mem_of_getElem? (i := 1) rfl) rfl dX9_answersBy_6 ?_
      refine lv_icmp_ge (tgt := 35) hx hb1 dX9_answersBy_9 (by decide) (fun c1 => ?_) (fun c1 => ?_)
      · have hq := hq.1 c1
        refine lv_iload_n hx hb1 dX9_answersBy_35 rfl (lv_at hl 2 rfl) ?_
        exact hh_iret X h hr hlocks hq dX9_answersBy_36
      · have hq := hq.2 c1
        refine lv_iload_n hx hb1 dX9_answersBy_12 rfl (lv_at hl 2 rfl) ?_
        refine lv_aload_n hx hb1 dX9_answersBy_13 rfl (lv_at hl 0 rfl) ?_
        refine lv_iload_n hx hb1 dX9_answersBy_14 rfl (lv_at hl 1 rfl) ?_
        refine lv_iload_n hx hb1 dX9_answersBy_15 rfl (lv_at hl 3 rfl) ?_
        refine hh_kI h (va_runV (As := [.int x1, .int x3]) (rest := [.int x2]) X.1 (ad_X9_counts (D := D) l J x1 x3 σ _ hq) (cwV 2 X.1.2.2.2.2 gX9_answersBy_X9_counts rfl rfl rfl nd_X9_counts ⟨Nat.le_of_ble_eq_true rfl, Nat.le_of_ble_eq_true rfl⟩) (hh_preV X h fm_0_0 km_0 [.int x1, .int x3]) rfl rfl hl.1 rfl (lv_room (Nat.le_of_ble_eq_true rfl)) dX9_answersBy_16 ⟨Nat.le_of_ble_eq_true rfl, Nat.le_of_ble_eq_true rfl⟩) (fun r2 σ3 H locs hq h => ?_)
        refine lv_if_eq (tgt := 26) hx hb1 dX9_answersBy_19 (by decide) (fun c4 => ?_) (fun c4 => ?_)
        · have hq := hq.1 c4
          refine lv_iconst (v := (0 : Int32)) hx hb1 dX9_answersBy_26 (by decide) ?_
          refine lv_iadd hx hb1 dX9_answersBy_27 ?_
          refine lv_topi (fun v5 ev5 => ?_)
          have hq := hq v5 ev5
          refine lv_istore_n (lv' := [(2, .int v5), (0, .ref (ad 0)), (1, .int x1), (3, .int x3)]) hx hb1 dX9_answersBy_28 rfl hl (by decide) rfl (fun ls hl => ?_)
          refine lv_iinc (v := (x3 + (1 : Int32))) (lv' := [(3, .int (x3 + (1 : Int32))), (2, .int v5), (0, .ref (ad 0)), (1, .int x1)]) hx hb1 dX9_answersBy_29 hl (k := 3) rfl rfl (by decide) rfl (fun ls hl => ?_)
          refine lv_goto (tgt := 4) hx hb1 dX9_answersBy_32 (by decide) ?_
          exact ih v5 (x3 + (1 : Int32)) σ3 _ _ ls hq h (lv_sub hl [2, 3, 1, 0] rfl)
        · have hq := hq.2 c4
          refine lv_iconst (v := (1 : Int32)) hx hb1 dX9_answersBy_22 (by decide) ?_
          refine lv_goto (tgt := 27) hx hb1 dX9_answersBy_23 (by decide) ?_
          refine lv_iadd hx hb1 dX9_answersBy_27 ?_
          refine lv_topi (fun v6 ev6 => ?_)
          have hq := hq v6 ev6
          refine lv_istore_n (lv' := [(2, .int v6), (0, .ref (ad 0)), (1, .int x1), (3, .int x3)]) hx hb1 dX9_answersBy_28 rfl hl (by decide) rfl (fun ls hl => ?_)
          refine lv_iinc (v := (x3 + (1 : Int32))) (lv' := [(3, .int (x3 + (1 : Int32))), (2, .int v6), (0, .ref (ad 0)), (1, .int x1)]) hx hb1 dX9_answersBy_29 hl (k := 3) rfl rfl (by decide) rfl (fun ls hl => ?_)
          refine lv_goto (tgt := 4) hx hb1 dX9_answersBy_32 (by decide) ?_
          exact ih v6 (x3 + (1 : Int32)) σ3 _ _ ls hq h (lv_sub hl [2, 3, 1, 0] rfl)
  subst hargs
  refine hh_entry (vs := [.ref (ad 0), .int x1]) (Nat.le_of_ble_eq_true rfl) (fun ls hl => ?_)
  have hl : lv_has ls 4 [(0, .ref (ad 0)), (1, .int x1)] := hl
  have hq : wp_X9_answersBy x1 σ Q := hq
  unfold wp_X9_answersBy at hq
  refine lv_iconst (v := (0 : Int32)) hx hb1 dX9_answersBy_0 (by decide) ?_
  refine lv_istore_n (lv' := [(2, .int (0 : Int32)), (0, .ref (ad 0)), (1, .int x1)]) hx hb1 dX9_answersBy_1 rfl hl (by decide) rfl (fun ls hl => ?_)
  refine lv_iconst (v := (0 : Int32)) hx hb1 dX9_answersBy_2 (by decide) ?_
  refine lv_istore_n (lv' := [(3, .int (0 : Int32)), (2, .int (0 : Int32)), (0, .ref (ad 0)), (1, .int x1)]) hx hb1 dX9_answersBy_3 rfl hl (by decide) rfl (fun ls hl => ?_)
  obtain ⟨n7, hq⟩ := hq
  exact lt_4 x1 n7 (0 : Int32) (0 : Int32) σ _ _ ls hq h (lv_sub hl [2, 3, 1, 0] rfl)
theorem nd_X9_right : yX9_right.cls = RX9 ∧ yX9_right.cls ≠ "java/lang/invoke/MethodHandle" ∧ yX9_right.cls ≠ "java/lang/invoke/VarHandle" ∧ (parseMethodDescriptor yX9_right.desc).map (fun d => d.parameters.length) = some 2 := by decide +kernel
abbrev rm_X9_right : Room := { frames := 2, cells := 0, slots := 0, locals := 45 }
def wp_X9_right (x1 : Int32) (x2 : Int32) (σ : hh_S) (Q : Int32 → hh_S → Prop) : Prop := (wp_X9_isHand x1 σ (fun (r1 : Int32) (σ2 : hh_S) => ((¬ r1 = 0 → ((¬ x2 = 0 → ((¬ x2 = (1 : Int32) → ((¬ x2 = (2 : Int32) → ((¬ x2 = (3 : Int32) → (Q (-2 : Int32) σ2)) ∧ (x2 = (3 : Int32) → (vp_in x1 10 ∧ (Q (hh_rA σ2 12 x1) σ2))))) ∧ (x2 = (2 : Int32) → (wp_X9_rightBy x1 σ2 (fun (r9 : Int32) (σ10 : hh_S) => (Q r9 σ10)))))) ∧ (x2 = (1 : Int32) → (wp_X9_knownBy x1 σ2 (fun (r11 : Int32) (σ12 : hh_S) => (Q r11 σ12)))))) ∧ (x2 = 0 → (wp_X9_answersBy x1 σ2 (fun (r13 : Int32) (σ14 : hh_S) => (Q r13 σ14)))))) ∧ (r1 = 0 → (Q (-1 : Int32) σ2)))))
theorem in_X9_right_X9 : ∀ w ∈ u_ws RX9 TX9 37, w ∈ wsX9_right := fun w h => List.mem_cons_of_mem _ (List.mem_append_right _ h)
set_option maxHeartbeats 4000000 in
set_option maxRecDepth 100000 in
theorem ad_X9_right {D : va_G} (l : Launch) {cy : Nat → ClassId} {ad : Nat → Nat} (J : hh_J hm_Y ad) (x1 : Int32) (x2 : Int32) (σ : hh_S) (Q : Int32 → hh_S → Prop) (hq : wp_X9_right x1 x2 σ Q) : Met l yX9_right wsX9_right rm_X9_right (va_Pc [.ref (ad 0), .int x1, .int x2] (hh_B D hh_cl hm_Y cy ad σ)) (va_Qi Q (hh_B D hh_cl hm_Y cy ad) (hh_A hm_Y ad)) 0 0 (hh_A hm_Y ad) := by
  refine Met.ofW (cc := cX9_right) (maxL := 3) (ret := (some .int)) (by decide) rfl ?_
  intro p e s m args below meth c s₁ B hml hv
  obtain ⟨hargs, hP0, hK0⟩ := hv
  have hr := B.returns
  have hlocks := B.notSynchronized
  have X : hh_X p m c cX9_right 3 s args wsX9_right RX9 D hh_cl hm_Y cy ad := ⟨⟨B.exec, B.bytes, hml, findClass_of_methodNamed B.named, atoms_spec (ws := wsX9_right) B.pre⟩, hK0, J⟩
  have hx := X.1.1
  have hb1 := X.1.2.1
  have h : hh_H D hh_cl hm_Y cy ad s.heap σ s.heap [] := ⟨hP0, va_S.rf⟩
  subst hargs
  refine hh_entry (vs := [.ref (ad 0), .int x1, .int x2]) (Nat.le_of_ble_eq_true rfl) (fun ls hl => ?_)
  have hl : lv_has ls 3 [(0, .ref (ad 0)), (1, .int x1), (2, .int x2)] := hl
  have hq : wp_X9_right x1 x2 σ Q := hq
  unfold wp_X9_right at hq
  refine lv_aload_n hx hb1 dX9_right_0 rfl (lv_at hl 0 rfl) ?_
  refine lv_iload_n hx hb1 dX9_right_1 rfl (lv_at hl 1 rfl) ?_
  refine hh_kI h (va_runV (As := [.int x1]) (rest := []) X.1 (ad_X9_isHand (D := D) l J x1 σ _ hq) (cwV 1 X.1.2.2.2.2 gX9_right_X9_isHand rfl rfl rfl nd_X9_isHand ⟨Nat.le_of_ble_eq_true rfl, Nat.le_of_ble_eq_true rfl⟩) (hh_preV X h fm_0_0 km_0 [.int x1]) rfl rfl hl.1 rfl (lv_room (Nat.le_of_ble_eq_true rfl)) dX9_right_2 ⟨Nat.le_of_ble_eq_true rfl, Nat.le_of_ble_eq_true rfl⟩) (fun r1 σ2 H locs hq h => ?_)
  refine lv_if_ne (tgt := 10) hx hb1 dX9_right_5 (by decide) (fun c3 => ?_) (fun c3 => ?_)
  · have hq := hq.1 c3
    refine lv_iload_n hx hb1 dX9_right_10 rfl (lv_at hl 2 rfl) ?_
    refine lv_if_ne (tgt := 22) hx hb1 dX9_right_11 (by decide) (fun c4 => ?_) (fun c4 => ?_)
    · have hq := hq.1 c4
      refine lv_iload_n hx hb1 dX9_right_22 rfl (lv_at hl 2 rfl) ?_
      refine lv_iconst (v := (1 : Int32)) hx hb1 dX9_right_23 (by decide) ?_
      refine lv_icmp_ne (tgt := 35) hx hb1 dX9_right_24 (by decide) (fun c5 => ?_) (fun c5 => ?_)
      · have hq := hq.1 c5
        refine lv_iload_n hx hb1 dX9_right_35 rfl (lv_at hl 2 rfl) ?_
        refine lv_iconst (v := (2 : Int32)) hx hb1 dX9_right_36 (by decide) ?_
        refine lv_icmp_ne (tgt := 48) hx hb1 dX9_right_37 (by decide) (fun c6 => ?_) (fun c6 => ?_)
        · have hq := hq.1 c6
          refine lv_iload_n hx hb1 dX9_right_48 rfl (lv_at hl 2 rfl) ?_
          refine lv_iconst (v := (3 : Int32)) hx hb1 dX9_right_49 (by decide) ?_
          refine lv_icmp_ne (tgt := 62) hx hb1 dX9_right_50 (by decide) (fun c7 => ?_) (fun c7 => ?_)
          · have hq := hq.1 c7
            refine lv_bipush (v := (-2 : Int32)) hx hb1 dX9_right_62 (by decide) ?_
            exact hh_iret X h hr hlocks hq dX9_right_64
          · have hq := hq.2 c7
            refine lv_aload_n hx hb1 dX9_right_53 rfl (lv_at hl 0 rfl) ?_
            refine hh_getr X h fm_0_15 in_X9_right_X9 km_0 (by decide) (List.mem_of_getElem? (i := 1) rfl) rfl dX9_right_54 ?_
            refine lv_iload_n hx hb1 dX9_right_57 rfl (lv_at hl 1 rfl) ?_
            obtain ⟨h8, hq⟩ := hq
            refine hh_ild X h am_12 h8 dX9_right_58 ?_
            refine lv_goto (tgt := 64) hx hb1 dX9_right_59 (by decide) ?_
            exact hh_iret X h hr hlocks hq dX9_right_64
        · have hq := hq.2 c6
          refine lv_aload_n hx hb1 dX9_right_40 rfl (lv_at hl 0 rfl) ?_
          refine lv_iload_n hx hb1 dX9_right_41 rfl (lv_at hl 1 rfl) ?_
          refine hh_kI h (va_runV (As := [.int x1]) (rest := []) X.1 (ad_X9_rightBy (D := D) l J x1 σ2 _ hq) (cwV 1 X.1.2.2.2.2 gX9_right_X9_rightBy rfl rfl rfl nd_X9_rightBy ⟨Nat.le_of_ble_eq_true rfl, Nat.le_of_ble_eq_true rfl⟩) (hh_preV X h fm_0_0 km_0 [.int x1]) rfl rfl hl.1 rfl (lv_room (Nat.le_of_ble_eq_true rfl)) dX9_right_42 ⟨Nat.le_of_ble_eq_true rfl, Nat.le_of_ble_eq_true rfl⟩) (fun r9 σ10 H locs hq h => ?_)
          refine lv_goto (tgt := 64) hx hb1 dX9_right_45 (by decide) ?_
          exact hh_iret X h hr hlocks hq dX9_right_64
      · have hq := hq.2 c5
        refine lv_aload_n hx hb1 dX9_right_27 rfl (lv_at hl 0 rfl) ?_
        refine lv_iload_n hx hb1 dX9_right_28 rfl (lv_at hl 1 rfl) ?_
        refine hh_kI h (va_runV (As := [.int x1]) (rest := []) X.1 (ad_X9_knownBy (D := D) l J x1 σ2 _ hq) (cwV 1 X.1.2.2.2.2 gX9_right_X9_knownBy rfl rfl rfl nd_X9_knownBy ⟨Nat.le_of_ble_eq_true rfl, Nat.le_of_ble_eq_true rfl⟩) (hh_preV X h fm_0_0 km_0 [.int x1]) rfl rfl hl.1 rfl (lv_room (Nat.le_of_ble_eq_true rfl)) dX9_right_29 ⟨Nat.le_of_ble_eq_true rfl, Nat.le_of_ble_eq_true rfl⟩) (fun r11 σ12 H locs hq h => ?_)
        refine lv_goto (tgt := 64) hx hb1 dX9_right_32 (by decide) ?_
        exact hh_iret X h hr hlocks hq dX9_right_64
    · have hq := hq.2 c4
      refine lv_aload_n hx hb1 dX9_right_14 rfl (lv_at hl 0 rfl) ?_
      refine lv_iload_n hx hb1 dX9_right_15 rfl (lv_at hl 1 rfl) ?_
      refine hh_kI h (va_runV (As := [.int x1]) (rest := []) X.1 (ad_X9_answersBy (D := D) l J x1 σ2 _ hq) (cwV 1 X.1.2.2.2.2 gX9_right_X9_answersBy rfl rfl rfl nd_X9_answersBy ⟨Nat.le_of_ble_eq_true rfl, Nat.le_of_ble_eq_true rfl⟩) (hh_preV X h fm_0_0 km_0 [.int x1]) rfl rfl hl.1 rfl (lv_room (Nat.le_of_ble_eq_true rfl)) dX9_right_16 ⟨Nat.le_of_ble_eq_true rfl, Nat.le_of_ble_eq_true rfl⟩) (fun r13 σ14 H locs hq h => ?_)
      refine lv_goto (tgt := 64) hx hb1 dX9_right_19 (by decide) ?_
      exact hh_iret X h hr hlocks hq dX9_right_64
  · have hq := hq.2 c3
    refine lv_iconst (v := (-1 : Int32)) hx hb1 dX9_right_8 (by decide) ?_
    exact hh_iret X h hr hlocks hq dX9_right_9
theorem nd_X9_common : yX9_common.cls ≠ "java/lang/invoke/MethodHandle" ∧ yX9_common.cls ≠ "java/lang/invoke/VarHandle" ∧ (parseMethodDescriptor yX9_common.desc).map (fun d => d.parameters.length) = some 2 := by decide +kernel
abbrev rm_X9_common : Room := { frames := 0, cells := 0, slots := 0, locals := 0 }
def wq_X9_common_6 (Q : Int64 → hh_S → Prop) (K6 : Int64 → Int64 → hh_S → Prop) (x4 : Int64) (x6 : Int64) (σ : hh_S) : Prop := (((lg_cmp x6 (0 : Int64)) = 0 → (Q x4 σ)) ∧ (¬ (lg_cmp x6 (0 : Int64)) = 0 → ((¬ x6 = 0) ∧ (∀ v3 : Int64, v3 = (x4 - x4 / x6 * x6) → (K6 x6 v3 σ)))))
def wp_X9_common (x0 : Int64) (x2 : Int64) (σ : hh_S) (Q : Int64 → hh_S → Prop) : Prop := (∃ n : Nat, hh_lp2 (wq_X9_common_6 Q) n x0 x2 σ)
set_option maxHeartbeats 4000000 in
set_option maxRecDepth 100000 in
theorem ad_X9_common {D : va_G} (l : Launch) {cy : Nat → ClassId} {ad : Nat → Nat} (J : hh_J hm_Y ad) (x0 : Int64) (x2 : Int64) (σ : hh_S) (Q : Int64 → hh_S → Prop) (hq : wp_X9_common x0 x2 σ Q) : Met l yX9_common wsX9_common rm_X9_common (va_Pc [.long x0, .long x2] (hh_B D hh_cl hm_Y cy ad σ)) (va_Ql Q (hh_B D hh_cl hm_Y cy ad) (hh_A hm_Y ad)) 0 0 (hh_A hm_Y ad) := by
  refine Met.ofW (cc := cX9_common) (maxL := 10) (ret := (some .long)) (by decide) rfl ?_
  intro p e s m args below meth c s₁ B hml hv
  obtain ⟨hargs, hP0, hK0⟩ := hv
  have hr := B.returns
  have hlocks := B.notSynchronized
  have X : hh_X p m c cX9_common 10 s args wsX9_common RX9 D hh_cl hm_Y cy ad := ⟨⟨B.exec, B.bytes, hml, findClass_of_methodNamed B.named, atoms_spec (ws := wsX9_common) B.pre⟩, hK0, J⟩
  have hx := X.1.1
  have hb1 := X.1.2.1
  have h : hh_H D hh_cl hm_Y cy ad s.heap σ s.heap [] := ⟨hP0, va_S.rf⟩
  have lt_6 : ∀ (n : Nat) (x4 : Int64) (x6 : Int64) (σ : hh_S) (H : Heap) (locs : List Loc) (ls : Array Slot), hh_lp2 (wq_X9_common_6 Q) n x4 x6 σ → hh_H D hh_cl hm_Y cy ad s.heap σ H locs → lv_has ls 10 [(4, .long x4), (6, .long x6)] → W p l e (headSpec wsX9_common rm_X9_common).room s m args below meth c H locs 0 0 (MQ below (va_Ql Q (hh_B D hh_cl hm_Y cy ad) (hh_A hm_Y ad)) args s 0 0 (hh_A hm_Y ad)) (F0 m 6 ls []) := by
    intro n
    induction n with
    | zero => intro x4 x6 σ H locs ls hq h hl; exact hq.elim
    | succ n ih =>
      intro x4 x6 σ H locs ls hq h hl
      have hq : wq_X9_common_6 Q (hh_lp2 (wq_X9_common_6 Q) n) x4 x6 σ := hq
      unfold wq_X9_common_6 at hq
      refine lv_lload hx hb1 dX9_common_6 (lv_at hl 1 rfl) ?_
      refine lv_lconst (v := (0 : Int64)) hx hb1 dX9_common_8 (by decide) ?_
      refine W.lcmp hx hb1 dX9_common_9 ?_
      refine lv_if_eq (tgt := 31) hx hb1 dX9_common_10 (by decide) (fun c1 => ?_) (fun c1 => ?_)
      · have hq := hq.1 c1
        refine lv_lload hx hb1 dX9_common_31 (lv_at hl 0 rfl) ?_
        exact hh_lret X h hr hlocks hq dX9_common_33
      · have hq := hq.2 c1
        refine lv_lload hx hb1 dX9_common_13 (lv_at hl 0 rfl) ?_
        refine lv_lload hx hb1 dX9_common_15 (lv_at hl 1 rfl) ?_
        obtain ⟨h2, hq⟩ := hq
        refine lv_lrem hx hb1 dX9_common_17 h2 ?_
        refine lv_topl (fun v3 ev3 => ?_)
        have hq := hq v3 ev3
        refine lv_lstore (lv' := [(8, .long v3), (4, .long x4), (6, .long x6)]) hx hb1 dX9_common_18 hl (by decide) rfl (fun ls hl => ?_)
        refine lv_lload hx hb1 dX9_common_20 (lv_at hl 2 rfl) ?_
        refine lv_lstore (lv' := [(4, .long x6), (8, .long v3), (6, .long x6)]) hx hb1 dX9_common_22 hl (by decide) rfl (fun ls hl => ?_)
        refine lv_lload hx hb1 dX9_common_24 (lv_at hl 1 rfl) ?_
        refine lv_lstore (lv' := [(6, .long v3), (4, .long x6), (8, .long v3)]) hx hb1 dX9_common_26 hl (by decide) rfl (fun ls hl => ?_)
        refine lv_goto (tgt := 6) hx hb1 dX9_common_28 (by decide) ?_
        exact ih x6 v3 σ _ _ ls hq h (lv_sub hl [1, 0] rfl)
  subst hargs
  refine hh_entry (vs := [.long x0, .long x2]) (Nat.le_of_ble_eq_true rfl) (fun ls hl => ?_)
  have hl : lv_has ls 10 [(0, .long x0), (2, .long x2)] := hl
  have hq : wp_X9_common x0 x2 σ Q := hq
  unfold wp_X9_common at hq
  refine lv_lload_n hx hb1 dX9_common_0 rfl (lv_at hl 0 rfl) ?_
  refine lv_lstore (lv' := [(4, .long x0), (0, .long x0), (2, .long x2)]) hx hb1 dX9_common_1 hl (by decide) rfl (fun ls hl => ?_)
  refine lv_lload_n hx hb1 dX9_common_3 rfl (lv_at hl 2 rfl) ?_
  refine lv_lstore (lv' := [(6, .long x2), (4, .long x0), (0, .long x0), (2, .long x2)]) hx hb1 dX9_common_4 hl (by decide) rfl (fun ls hl => ?_)
  obtain ⟨n4, hq⟩ := hq
  exact lt_6 n4 x0 x2 σ _ _ ls hq h (lv_sub hl [1, 0] rfl)
theorem nd_X9_term : yX9_term.cls ≠ "java/lang/invoke/MethodHandle" ∧ yX9_term.cls ≠ "java/lang/invoke/VarHandle" ∧ (parseMethodDescriptor yX9_term.desc).map (fun d => d.parameters.length) = some 3 := by decide +kernel
abbrev rm_X9_term : Room := { frames := 1, cells := 0, slots := 0, locals := 29 }
def wp_X9_term (x0 : Int64) (x2 : Int64) (x4 : Int32) (σ : hh_S) (Q : Int64 → hh_S → Prop) : Prop := (wp_X9_common x0 x2 σ (fun (r1 : Int64) (σ2 : hh_S) => ((¬ x4 = 0 → ((¬ r1 = 0) ∧ (Q (x2 / r1) σ2))) ∧ (x4 = 0 → ((¬ r1 = 0) ∧ (Q (x0 / r1) σ2))))))
set_option maxHeartbeats 4000000 in
set_option maxRecDepth 100000 in
theorem ad_X9_term {D : va_G} (l : Launch) {cy : Nat → ClassId} {ad : Nat → Nat} (J : hh_J hm_Y ad) (x0 : Int64) (x2 : Int64) (x4 : Int32) (σ : hh_S) (Q : Int64 → hh_S → Prop) (hq : wp_X9_term x0 x2 x4 σ Q) : Met l yX9_term wsX9_term rm_X9_term (va_Pc [.long x0, .long x2, .int x4] (hh_B D hh_cl hm_Y cy ad σ)) (va_Ql Q (hh_B D hh_cl hm_Y cy ad) (hh_A hm_Y ad)) 0 0 (hh_A hm_Y ad) := by
  refine Met.ofW (cc := cX9_term) (maxL := 7) (ret := (some .long)) (by decide) rfl ?_
  intro p e s m args below meth c s₁ B hml hv
  obtain ⟨hargs, hP0, hK0⟩ := hv
  have hr := B.returns
  have hlocks := B.notSynchronized
  have X : hh_X p m c cX9_term 7 s args wsX9_term RX9 D hh_cl hm_Y cy ad := ⟨⟨B.exec, B.bytes, hml, findClass_of_methodNamed B.named, atoms_spec (ws := wsX9_term) B.pre⟩, hK0, J⟩
  have hx := X.1.1
  have hb1 := X.1.2.1
  have h : hh_H D hh_cl hm_Y cy ad s.heap σ s.heap [] := ⟨hP0, va_S.rf⟩
  subst hargs
  refine hh_entry (vs := [.long x0, .long x2, .int x4]) (Nat.le_of_ble_eq_true rfl) (fun ls hl => ?_)
  have hl : lv_has ls 7 [(0, .long x0), (2, .long x2), (4, .int x4)] := hl
  have hq : wp_X9_term x0 x2 x4 σ Q := hq
  unfold wp_X9_term at hq
  refine lv_lload_n hx hb1 dX9_term_0 rfl (lv_at hl 0 rfl) ?_
  refine lv_lload_n hx hb1 dX9_term_1 rfl (lv_at hl 1 rfl) ?_
  refine hh_kL h (va_runS (As := [.long x0, .long x2]) (rest := []) X.1 (ad_X9_common (D := D) l J x0 x2 σ _ hq) (va_cwS 2 X.1.2.2.2.2 gX9_term_X9_common rfl rfl rfl nd_X9_common ⟨Nat.le_of_ble_eq_true rfl, Nat.le_of_ble_eq_true rfl⟩) (hh_preS X h [.long x0, .long x2]) rfl rfl hl.1 rfl (lv_room (Nat.le_of_ble_eq_true rfl)) dX9_term_2 ⟨Nat.le_of_ble_eq_true rfl, Nat.le_of_ble_eq_true rfl⟩) (fun r1 σ2 H locs hq h => ?_)
  refine lv_lstore (lv' := [(5, .long r1), (0, .long x0), (2, .long x2), (4, .int x4)]) hx hb1 dX9_term_5 hl (by decide) rfl (fun ls hl => ?_)
  refine lv_iload hx hb1 dX9_term_7 (lv_at hl 3 rfl) ?_
  refine lv_if_ne (tgt := 19) hx hb1 dX9_term_9 (by decide) (fun c3 => ?_) (fun c3 => ?_)
  · have hq := hq.1 c3
    refine lv_lload_n hx hb1 dX9_term_19 rfl (lv_at hl 2 rfl) ?_
    refine lv_lload hx hb1 dX9_term_20 (lv_at hl 0 rfl) ?_
    obtain ⟨h4, hq⟩ := hq
    refine lv_ldiv hx hb1 dX9_term_22 h4 ?_
    exact hh_lret X h hr hlocks hq dX9_term_23
  · have hq := hq.2 c3
    refine lv_lload_n hx hb1 dX9_term_12 rfl (lv_at hl 1 rfl) ?_
    refine lv_lload hx hb1 dX9_term_13 (lv_at hl 0 rfl) ?_
    obtain ⟨h5, hq⟩ := hq
    refine lv_ldiv hx hb1 dX9_term_15 h5 ?_
    refine lv_goto (tgt := 23) hx hb1 dX9_term_16 (by decide) ?_
    exact hh_lret X h hr hlocks hq dX9_term_23
theorem nd_X9_beginWays : yX9_beginWays.cls = RX9 ∧ yX9_beginWays.cls ≠ "java/lang/invoke/MethodHandle" ∧ yX9_beginWays.cls ≠ "java/lang/invoke/VarHandle" ∧ (parseMethodDescriptor yX9_beginWays.desc).map (fun d => d.parameters.length) = some 0 := by decide +kernel
abbrev rm_X9_beginWays : Room := { frames := 0, cells := 0, slots := 0, locals := 0 }
def wq_X9_beginWays_2 (Q : hh_S → Prop) (K2 : Int32 → hh_S → Prop) (x1 : Int32) (σ : hh_S) : Prop := (((25 : Int32) ≤ x1 → (∀ σ2 : hh_S, σ2 = hh_uL σ 34 (1 : Int64) → (∀ σ3 : hh_S, σ3 = hh_uI σ2 35 (0 : Int32) → (Q σ3)))) ∧ (¬ (25 : Int32) ≤ x1 → ((¬ x1 = 0 → (vp_in x1 25 ∧ ∀ σ6 : hh_S, σ6 = hh_sB σ 26 x1 (0 : Int64) → (K2 (x1 + (1 : Int32)) σ6))) ∧ (x1 = 0 → (vp_in x1 25 ∧ ∀ σ8 : hh_S, σ8 = hh_sB σ 26 x1 (1 : Int64) → (K2 (x1 + (1 : Int32)) σ8))))))
def wp_X9_beginWays (σ : hh_S) (Q : hh_S → Prop) : Prop := (∃ n : Nat, hh_lp1 (wq_X9_beginWays_2 Q) n (0 : Int32) σ)
theorem in_X9_beginWays_X9 : ∀ w ∈ u_ws RX9 TX9 37, w ∈ wsX9_beginWays := fun w h => List.mem_cons_of_mem _ (List.mem_append_right _ h)
set_option maxHeartbeats 4000000 in
set_option maxRecDepth 100000 in
theorem ad_X9_beginWays {D : va_G} (l : Launch) {cy : Nat → ClassId} {ad : Nat → Nat} (J : hh_J hm_Y ad) (σ : hh_S) (Q : hh_S → Prop) (hq : wp_X9_beginWays σ Q) : Met l yX9_beginWays wsX9_beginWays rm_X9_beginWays (va_Pc [.ref (ad 0)] (hh_B D hh_cl hm_Y cy ad σ)) (va_Qv Q (hh_B D hh_cl hm_Y cy ad) (hh_A hm_Y ad)) 0 0 (hh_A hm_Y ad) := by
  refine Met.ofW (cc := cX9_beginWays) (maxL := 2) (ret := none) (by decide) rfl ?_
  intro p e s m args below meth c s₁ B hml hv
  obtain ⟨hargs, hP0, hK0⟩ := hv
  have hr := B.returns
  have hlocks := B.notSynchronized
  have X : hh_X p m c cX9_beginWays 2 s args wsX9_beginWays RX9 D hh_cl hm_Y cy ad := ⟨⟨B.exec, B.bytes, hml, findClass_of_methodNamed B.named, atoms_spec (ws := wsX9_beginWays) B.pre⟩, hK0, J⟩
  have hx := X.1.1
  have hb1 := X.1.2.1
  have h : hh_H D hh_cl hm_Y cy ad s.heap σ s.heap [] := ⟨hP0, va_S.rf⟩
  have lt_2 : ∀ (n : Nat) (x1 : Int32) (σ : hh_S) (H : Heap) (locs : List Loc) (ls : Array Slot), hh_lp1 (wq_X9_beginWays_2 Q) n x1 σ → hh_H D hh_cl hm_Y cy ad s.heap σ H locs → lv_has ls 2 [(0, .ref (ad 0)), (1, .int x1)] → W p l e (headSpec wsX9_beginWays rm_X9_beginWays).room s m args below meth c H locs 0 0 (MQ below (va_Qv Q (hh_B D hh_cl hm_Y cy ad) (hh_A hm_Y ad)) args s 0 0 (hh_A hm_Y ad)) (F0 m 2 ls []) := by
    intro n
    induction n with
    | zero => intro x1 σ H locs ls hq h hl; exact hq.elim
    | succ n ih =>
      intro x1 σ H locs ls hq h hl
      have hq : wq_X9_beginWays_2 Q (hh_lp1 (wq_X9_beginWays_2 Q) n) x1 σ := hq
      unfold wq_X9_beginWays_2 at hq
      refine lv_iload_n hx hb1 dX9_beginWays_2 rfl (lv_at hl 1 rfl) ?_
      refine lv_bipush (v := (25 : Int32)) hx hb1 dX9_beginWays_3 (by decide) ?_
      refine lv_icmp_ge (tgt := 29) hx hb1 dX9_beginWays_5 (by decide) (fun c1 => ?_) (fun c1 => ?_)
      · have hq := hq.1 c1
        refine lv_aload_n hx hb1 dX9_beginWays_29 rfl (lv_at hl 0 rfl) ?_
        refine lv_lconst (v := (1 : Int64)) hx hb1 dX9_beginWays_30 (by decide) ?_
        refine hh_putl X h (q := 34) hm_n fm_0_34 rfl in_X9_beginWays_X9 km_0 tyX9 tyX9_ok nmX9 (by decide) (List.mem_of_getElem? (i := 2) rfl) rfl rfl rfl rfl dX9_beginWays_31 (fun σ2 H locs eσ2 h => ?_)
        have hq := hq σ2 eσ2
        refine lv_aload_n hx hb1 dX9_beginWays_34 rfl (lv_at hl 0 rfl) ?_
        refine lv_iconst (v := (0 : Int32)) hx hb1 dX9_beginWays_35 (by decide) ?_
        refine hh_puti X h (q := 35) hm_n fm_0_35 rfl in_X9_beginWays_X9 km_0 tyX9 tyX9_ok nmX9 (by decide) (List.mem_of_getElem? (i := 3) rfl) rfl rfl rfl rfl dX9_beginWays_36 (fun σ3 H locs eσ3 h => ?_)
        have hq := hq σ3 eσ3
        exact hh_vret X h hr hlocks hq dX9_beginWays_39
      · have hq := hq.2 c1
        refine lv_aload_n hx hb1 dX9_beginWays_8 rfl (lv_at hl 0 rfl) ?_
        refine hh_getr X h fm_0_33 in_X9_beginWays_X9 km_0 (by decide) (List.mem_of_getElem? (i := 1) rfl) rfl dX9_beginWays_9 ?_
        refine lv_iload_n hx hb1 dX9_beginWays_12 rfl (lv_at hl 1 rfl) ?_
        refine lv_iload_n hx hb1 dX9_beginWays_13 rfl (lv_at hl 1 rfl) ?_
        refine lv_if_ne (tgt := 21) hx hb1 dX9_beginWays_14 (by decide) (fun c4 => ?_) (fun c4 => ?_)
        · have hq := hq.1 c4
          refine lv_lconst (v := (0 : Int64)) hx hb1 dX9_beginWays_21 (by decide) ?_
          obtain ⟨h5, hq⟩ := hq
          refine hh_lst X h am_26 h5 dX9_beginWays_22 (fun σ6 H locs eσ6 h => ?_)
          have hq := hq σ6 eσ6
          refine lv_iinc (v := (x1 + (1 : Int32))) (lv' := [(1, .int (x1 + (1 : Int32))), (0, .ref (ad 0))]) hx hb1 dX9_beginWays_23 hl (k := 1) rfl rfl (by decide) rfl (fun ls hl => ?_)
          refine lv_goto (tgt := 2) hx hb1 dX9_beginWays_26 (by decide) ?_
          exact ih (x1 + (1 : Int32)) σ6 _ _ ls hq h (lv_sub hl [1, 0] rfl)
        · have hq := hq.2 c4
          refine lv_lconst (v := (1 : Int64)) hx hb1 dX9_beginWays_17 (by decide) ?_
          refine lv_goto (tgt := 22) hx hb1 dX9_beginWays_18 (by decide) ?_
          obtain ⟨h7, hq⟩ := hq
          refine hh_lst X h am_26 h7 dX9_beginWays_22 (fun σ8 H locs eσ8 h => ?_)
          have hq := hq σ8 eσ8
          refine lv_iinc (v := (x1 + (1 : Int32))) (lv' := [(1, .int (x1 + (1 : Int32))), (0, .ref (ad 0))]) hx hb1 dX9_beginWays_23 hl (k := 1) rfl rfl (by decide) rfl (fun ls hl => ?_)
          refine lv_goto (tgt := 2) hx hb1 dX9_beginWays_26 (by decide) ?_
          exact ih (x1 + (1 : Int32)) σ8 _ _ ls hq h (lv_sub hl [1, 0] rfl)
  subst hargs
  refine hh_entry (vs := [.ref (ad 0)]) (Nat.le_of_ble_eq_true rfl) (fun ls hl => ?_)
  have hl : lv_has ls 2 [(0, .ref (ad 0))] := hl
  have hq : wp_X9_beginWays σ Q := hq
  unfold wp_X9_beginWays at hq
  refine lv_iconst (v := (0 : Int32)) hx hb1 dX9_beginWays_0 (by decide) ?_
  refine lv_istore_n (lv' := [(1, .int (0 : Int32)), (0, .ref (ad 0))]) hx hb1 dX9_beginWays_1 rfl hl (by decide) rfl (fun ls hl => ?_)
  obtain ⟨n9, hq⟩ := hq
  exact lt_2 n9 (0 : Int32) σ _ _ ls hq h (lv_sub hl [1, 0] rfl)
theorem nd_X9_drawFrom : yX9_drawFrom.cls = RX9 ∧ yX9_drawFrom.cls ≠ "java/lang/invoke/MethodHandle" ∧ yX9_drawFrom.cls ≠ "java/lang/invoke/VarHandle" ∧ (parseMethodDescriptor yX9_drawFrom.desc).map (fun d => d.parameters.length) = some 1 := by decide +kernel
abbrev rm_X9_drawFrom : Room := { frames := 0, cells := 0, slots := 0, locals := 0 }
def wq_X9_drawFrom_15 (x1 : Int32) (Q : hh_S → Prop) (K15 : Int32 → hh_S → Prop) (x2 : Int32) (σ : hh_S) : Prop := ((x2 < 0 → (∀ σ2 : hh_S, σ2 = hh_uL σ 34 ((hh_L σ 34) * (x1.toInt64)) → (Q σ2))) ∧ (¬ x2 < 0 → (vp_in x2 25 ∧ ((x2 ≤ 0 → (vp_in x2 25 ∧ ∀ σ6 : hh_S, σ6 = hh_sB σ 26 x2 (((hh_rB σ 26 x2) * ((x1 - (1 : Int32)).toInt64)) + (0 : Int64)) → (K15 (x2 + (-1 : Int32)) σ6))) ∧ (¬ x2 ≤ 0 → (vp_in (x2 - (1 : Int32)) 25 ∧ (vp_in x2 25 ∧ ∀ σ9 : hh_S, σ9 = hh_sB σ 26 x2 (((hh_rB σ 26 x2) * ((x1 - (1 : Int32)).toInt64)) + (hh_rB σ 26 (x2 - (1 : Int32)))) → (K15 (x2 + (-1 : Int32)) σ9))))))))
def wp_X9_drawFrom (x1 : Int32) (σ : hh_S) (Q : hh_S → Prop) : Prop := (∀ σ10 : hh_S, σ10 = hh_uI σ 35 ((hh_I σ 35) + (1 : Int32)) → (∀ v11 : Int32, v11 = (hh_I σ10 35) → (∃ n : Nat, hh_lp1 (wq_X9_drawFrom_15 x1 Q) n v11 σ10)))
theorem in_X9_drawFrom_X9 : ∀ w ∈ u_ws RX9 TX9 37, w ∈ wsX9_drawFrom := fun w h => List.mem_cons_of_mem _ (List.mem_append_right _ h)
set_option maxHeartbeats 4000000 in
set_option maxRecDepth 100000 in
theorem ad_X9_drawFrom {D : va_G} (l : Launch) {cy : Nat → ClassId} {ad : Nat → Nat} (J : hh_J hm_Y ad) (x1 : Int32) (σ : hh_S) (Q : hh_S → Prop) (hq : wp_X9_drawFrom x1 σ Q) : Met l yX9_drawFrom wsX9_drawFrom rm_X9_drawFrom (va_Pc [.ref (ad 0), .int x1] (hh_B D hh_cl hm_Y cy ad σ)) (va_Qv Q (hh_B D hh_cl hm_Y cy ad) (hh_A hm_Y ad)) 0 0 (hh_A hm_Y ad) := by
  refine Met.ofW (cc := cX9_drawFrom) (maxL := 3) (ret := none) (by decide) rfl ?_
  intro p e s m args below meth c s₁ B hml hv
  obtain ⟨hargs, hP0, hK0⟩ := hv
  have hr := B.returns
  have hlocks := B.notSynchronized
  have X : hh_X p m c cX9_drawFrom 3 s args wsX9_drawFrom RX9 D hh_cl hm_Y cy ad := ⟨⟨B.exec, B.bytes, hml, findClass_of_methodNamed B.named, atoms_spec (ws := wsX9_drawFrom) B.pre⟩, hK0, J⟩
  have hx := X.1.1
  have hb1 := X.1.2.1
  have h : hh_H D hh_cl hm_Y cy ad s.heap σ s.heap [] := ⟨hP0, va_S.rf⟩
  have lt_15 : ∀ (x1 : Int32) (n : Nat) (x2 : Int32) (σ : hh_S) (H : Heap) (locs : List Loc) (ls : Array Slot), hh_lp1 (wq_X9_drawFrom_15 x1 Q) n x2 σ → hh_H D hh_cl hm_Y cy ad s.heap σ H locs → lv_has ls 3 [(0, .ref (ad 0)), (1, .int x1), (2, .int x2)] → W p l e (headSpec wsX9_drawFrom rm_X9_drawFrom).room s m args below meth c H locs 0 0 (MQ below (va_Qv Q (hh_B D hh_cl hm_Y cy ad) (hh_A hm_Y ad)) args s 0 0 (hh_A hm_Y ad)) (F0 m 15 ls []) := by
    intro x1 n
    induction n with
    | zero => intro x2 σ H locs ls hq h hl; exact hq.elim
    | succ n ih =>
      intro x2 σ H locs ls hq h hl
      have hq : wq_X9_drawFrom_15 x1 Q (hh_lp1 (wq_X9_drawFrom_15 x1 Q) n) x2 σ := hq
      unfold wq_X9_drawFrom_15 at hq
      refine lv_iload_n hx hb1 dX9_drawFrom_15 rfl (lv_at hl 2 rfl) ?_
      refine lv_if_lt (tgt := 59) hx hb1 dX9_drawFrom_16 (by decide) (fun c1 => ?_) (fun c1 => ?_)
      · have hq := hq.1 c1
        refine lv_aload_n hx hb1 dX9_drawFrom_59 rfl (lv_at hl 0 rfl) ?_
        refine lv_dup hx hb1 dX9_drawFrom_60 rfl ?_
        refine hh_getl X h (q := 34) fm_0_34 rfl in_X9_drawFrom_X9 km_0 (by decide) (List.mem_of_getElem? (i := 3) rfl) rfl dX9_drawFrom_61 ?_
        refine lv_iload_n hx hb1 dX9_drawFrom_64 rfl (lv_at hl 1 rfl) ?_
        refine lv_i2l (v := (x1).toInt64) hx hb1 dX9_drawFrom_65 rfl ?_
        refine lv_lmul hx hb1 dX9_drawFrom_66 ?_
        refine hh_putl X h (q := 34) hm_n fm_0_34 rfl in_X9_drawFrom_X9 km_0 tyX9 tyX9_ok nmX9 (by decide) (List.mem_of_getElem? (i := 3) rfl) rfl rfl rfl rfl dX9_drawFrom_67 (fun σ2 H locs eσ2 h => ?_)
        have hq := hq σ2 eσ2
        exact hh_vret X h hr hlocks hq dX9_drawFrom_70
      · have hq := hq.2 c1
        refine lv_aload_n hx hb1 dX9_drawFrom_19 rfl (lv_at hl 0 rfl) ?_
        refine hh_getr X h fm_0_33 in_X9_drawFrom_X9 km_0 (by decide) (List.mem_of_getElem? (i := 2) rfl) rfl dX9_drawFrom_20 ?_
        refine lv_iload_n hx hb1 dX9_drawFrom_23 rfl (lv_at hl 2 rfl) ?_
        refine lv_aload_n hx hb1 dX9_drawFrom_24 rfl (lv_at hl 0 rfl) ?_
        refine hh_getr X h fm_0_33 in_X9_drawFrom_X9 km_0 (by decide) (List.mem_of_getElem? (i := 2) rfl) rfl dX9_drawFrom_25 ?_
        refine lv_iload_n hx hb1 dX9_drawFrom_28 rfl (lv_at hl 2 rfl) ?_
        obtain ⟨h3, hq⟩ := hq
        refine hh_lld X h am_26 h3 dX9_drawFrom_29 ?_
        refine lv_iload_n hx hb1 dX9_drawFrom_30 rfl (lv_at hl 1 rfl) ?_
        refine lv_iconst (v := (1 : Int32)) hx hb1 dX9_drawFrom_31 (by decide) ?_
        refine lv_isub hx hb1 dX9_drawFrom_32 ?_
        refine lv_i2l (v := ((x1 - (1 : Int32))).toInt64) hx hb1 dX9_drawFrom_33 rfl ?_
        refine lv_lmul hx hb1 dX9_drawFrom_34 ?_
        refine lv_iload_n hx hb1 dX9_drawFrom_35 rfl (lv_at hl 2 rfl) ?_
        refine lv_if_le (tgt := 50) hx hb1 dX9_drawFrom_36 (by decide) (fun c4 => ?_) (fun c4 => ?_)
        · have hq := hq.1 c4
          refine lv_lconst (v := (0 : Int64)) hx hb1 dX9_drawFrom_50 (by decide) ?_
          refine lv_ladd hx hb1 dX9_drawFrom_51 ?_
          obtain ⟨h5, hq⟩ := hq
          refine hh_lst X h am_26 h5 dX9_drawFrom_52 (fun σ6 H locs eσ6 h => ?_)
          have hq := hq σ6 eσ6
          refine lv_iinc (v := (x2 + (-1 : Int32))) (lv' := [(2, .int (x2 + (-1 : Int32))), (0, .ref (ad 0)), (1, .int x1)]) hx hb1 dX9_drawFrom_53 hl (k := 2) rfl rfl (by decide) rfl (fun ls hl => ?_)
          refine lv_goto (tgt := 15) hx hb1 dX9_drawFrom_56 (by decide) ?_
          exact ih (x2 + (-1 : Int32)) σ6 _ _ ls hq h (lv_sub hl [1, 2, 0] rfl)
        · have hq := hq.2 c4
          refine lv_aload_n hx hb1 dX9_drawFrom_39 rfl (lv_at hl 0 rfl) ?_
          refine hh_getr X h fm_0_33 in_X9_drawFrom_X9 km_0 (by decide) (List.mem_of_getElem? (i := 2) rfl) rfl dX9_drawFrom_40 ?_
          refine lv_iload_n hx hb1 dX9_drawFrom_43 rfl (lv_at hl 2 rfl) ?_
          refine lv_iconst (v := (1 : Int32)) hx hb1 dX9_drawFrom_44 (by decide) ?_
          refine lv_isub hx hb1 dX9_drawFrom_45 ?_
          obtain ⟨h7, hq⟩ := hq
          refine hh_lld X h am_26 h7 dX9_drawFrom_46 ?_
          refine lv_goto (tgt := 51) hx hb1 dX9_drawFrom_47 (by decide) ?_
          refine lv_ladd hx hb1 dX9_drawFrom_51 ?_
          obtain ⟨h8, hq⟩ := hq
          refine hh_lst X h am_26 h8 dX9_drawFrom_52 (fun σ9 H locs eσ9 h => ?_)
          have hq := hq σ9 eσ9
          refine lv_iinc (v := (x2 + (-1 : Int32))) (lv' := [(2, .int (x2 + (-1 : Int32))), (0, .ref (ad 0)), (1, .int x1)]) hx hb1 dX9_drawFrom_53 hl (k := 2) rfl rfl (by decide) rfl (fun ls hl => ?_)
          refine lv_goto (tgt := 15) hx hb1 dX9_drawFrom_56 (by decide) ?_
          exact ih (x2 + (-1 : Int32)) σ9 _ _ ls hq h (lv_sub hl [1, 2, 0] rfl)
  subst hargs
  refine hh_entry (vs := [.ref (ad 0), .int x1]) (Nat.le_of_ble_eq_true rfl) (fun ls hl => ?_)
  have hl : lv_has ls 3 [(0, .ref (ad 0)), (1, .int x1)] := hl
  have hq : wp_X9_drawFrom x1 σ Q := hq
  unfold wp_X9_drawFrom at hq
  refine lv_aload_n hx hb1 dX9_drawFrom_0 rfl (lv_at hl 0 rfl) ?_
  refine lv_dup hx hb1 dX9_drawFrom_1 rfl ?_
  refine hh_geti X h (q := 35) fm_0_35 rfl in_X9_drawFrom_X9 km_0 (by decide) (List.mem_of_getElem? (i := 1) rfl) rfl dX9_drawFrom_2 ?_
  refine lv_iconst (v := (1 : Int32)) hx hb1 dX9_drawFrom_5 (by decide) ?_
  refine lv_iadd hx hb1 dX9_drawFrom_6 ?_
  refine hh_puti X h (q := 35) hm_n fm_0_35 rfl in_X9_drawFrom_X9 km_0 tyX9 tyX9_ok nmX9 (by decide) (List.mem_of_getElem? (i := 1) rfl) rfl rfl rfl rfl dX9_drawFrom_7 (fun σ10 H locs eσ10 h => ?_)
  have hq := hq σ10 eσ10
  refine lv_aload_n hx hb1 dX9_drawFrom_10 rfl (lv_at hl 0 rfl) ?_
  refine hh_geti X h (q := 35) fm_0_35 rfl in_X9_drawFrom_X9 km_0 (by decide) (List.mem_of_getElem? (i := 1) rfl) rfl dX9_drawFrom_11 ?_
  refine lv_topi (fun v11 ev11 => ?_)
  have hq := hq v11 ev11
  refine lv_istore_n (lv' := [(2, .int v11), (0, .ref (ad 0)), (1, .int x1)]) hx hb1 dX9_drawFrom_14 rfl hl (by decide) rfl (fun ls hl => ?_)
  obtain ⟨n12, hq⟩ := hq
  exact lt_15 x1 n12 v11 σ10 _ _ ls hq h (lv_sub hl [1, 2, 0] rfl)
theorem nd_X9_oddsFrom : yX9_oddsFrom.cls = RX9 ∧ yX9_oddsFrom.cls ≠ "java/lang/invoke/MethodHandle" ∧ yX9_oddsFrom.cls ≠ "java/lang/invoke/VarHandle" ∧ (parseMethodDescriptor yX9_oddsFrom.desc).map (fun d => d.parameters.length) = some 2 := by decide +kernel
abbrev rm_X9_oddsFrom : Room := { frames := 2, cells := 0, slots := 0, locals := 55 }
def wq_X9_oddsFrom_5 (x2 : Int32) (Q : Int64 → hh_S → Prop) (K5 : Int64 → Int32 → hh_S → Prop) (x3 : Int64) (x5 : Int32) (σ : hh_S) : Prop := (((hh_I σ 35) < x5 → (wp_X9_term x3 (hh_L σ 34) x2 σ (fun (r2 : Int64) (σ3 : hh_S) => (Q r2 σ3)))) ∧ (¬ (hh_I σ 35) < x5 → (vp_in x5 25 ∧ (∀ v5 : Int64, v5 = (x3 + (hh_rB σ 26 x5)) → (K5 v5 (x5 + (1 : Int32)) σ)))))
def wp_X9_oddsFrom (x1 : Int32) (x2 : Int32) (σ : hh_S) (Q : Int64 → hh_S → Prop) : Prop := (∃ n : Nat, hh_lp2 (wq_X9_oddsFrom_5 x2 Q) n (0 : Int64) x1 σ)
theorem in_X9_oddsFrom_X9 : ∀ w ∈ u_ws RX9 TX9 37, w ∈ wsX9_oddsFrom := fun w h => List.mem_cons_of_mem _ (List.mem_append_right _ h)
set_option maxHeartbeats 4000000 in
set_option maxRecDepth 100000 in
theorem ad_X9_oddsFrom {D : va_G} (l : Launch) {cy : Nat → ClassId} {ad : Nat → Nat} (J : hh_J hm_Y ad) (x1 : Int32) (x2 : Int32) (σ : hh_S) (Q : Int64 → hh_S → Prop) (hq : wp_X9_oddsFrom x1 x2 σ Q) : Met l yX9_oddsFrom wsX9_oddsFrom rm_X9_oddsFrom (va_Pc [.ref (ad 0), .int x1, .int x2] (hh_B D hh_cl hm_Y cy ad σ)) (va_Ql Q (hh_B D hh_cl hm_Y cy ad) (hh_A hm_Y ad)) 0 0 (hh_A hm_Y ad) := by
  refine Met.ofW (cc := cX9_oddsFrom) (maxL := 6) (ret := (some .long)) (by decide) rfl ?_
  intro p e s m args below meth c s₁ B hml hv
  obtain ⟨hargs, hP0, hK0⟩ := hv
  have hr := B.returns
  have hlocks := B.notSynchronized
  have X : hh_X p m c cX9_oddsFrom 6 s args wsX9_oddsFrom RX9 D hh_cl hm_Y cy ad := ⟨⟨B.exec, B.bytes, hml, findClass_of_methodNamed B.named, atoms_spec (ws := wsX9_oddsFrom) B.pre⟩, hK0, J⟩
  have hx := X.1.1
  have hb1 := X.1.2.1
  have h : hh_H D hh_cl hm_Y cy ad s.heap σ s.heap [] := ⟨hP0, va_S.rf⟩
  have lt_5 : ∀ (x2 : Int32) (n : Nat) (x3 : Int64) (x5 : Int32) (σ : hh_S) (H : Heap) (locs : List Loc) (ls : Array Slot), hh_lp2 (wq_X9_oddsFrom_5 x2 Q) n x3 x5 σ → hh_H D hh_cl hm_Y cy ad s.heap σ H locs → lv_has ls 6 [(0, .ref (ad 0)), (2, .int x2), (3, .long x3), (5, .int x5)] → W p l e (headSpec wsX9_oddsFrom rm_X9_oddsFrom).room s m args below meth c H locs 0 0 (MQ below (va_Ql Q (hh_B D hh_cl hm_Y cy ad) (hh_A hm_Y ad)) args s 0 0 (hh_A hm_Y ad)) (F0 m 5 ls []) := by
    intro x2 n
    induction n with
    | zero => intro x3 x5 σ H locs ls hq h hl; exact hq.elim
    | succ n ih =>
      intro x3 x5 σ H locs ls hq h hl
      have hq : wq_X9_oddsFrom_5 x2 Q (hh_lp2 (wq_X9_oddsFrom_5 x2 Q) n) x3 x5 σ := hq
      unfold wq_X9_oddsFrom_5 at hq
      refine lv_iload hx hb1 dX9_oddsFrom_5 (lv_at hl 3 rfl) ?_
      refine lv_aload_n hx hb1 dX9_oddsFrom_7 rfl (lv_at hl 0 rfl) ?_
      refine hh_geti X h (q := 35) fm_0_35 rfl in_X9_oddsFrom_X9 km_0 (by decide) (List.mem_of_getElem? (i := 1) rfl) rfl dX9_oddsFrom_8 ?_
      refine lv_icmp_gt (tgt := 30) hx hb1 dX9_oddsFrom_11 (by decide) (fun c1 => ?_) (fun c1 => ?_)
      · have hq := hq.1 c1
        refine lv_lload_n hx hb1 dX9_oddsFrom_30 rfl (lv_at hl 2 rfl) ?_
        refine lv_aload_n hx hb1 dX9_oddsFrom_31 rfl (lv_at hl 0 rfl) ?_
        refine hh_getl X h (q := 34) fm_0_34 rfl in_X9_oddsFrom_X9 km_0 (by decide) (List.mem_of_getElem? (i := 3) rfl) rfl dX9_oddsFrom_32 ?_
        refine lv_iload_n hx hb1 dX9_oddsFrom_35 rfl (lv_at hl 1 rfl) ?_
        refine hh_kL h (va_runS (As := [.long x3, .long (hh_L σ 34), .int x2]) (rest := []) X.1 (ad_X9_term (D := D) l J x3 (hh_L σ 34) x2 σ _ hq) (va_cwS 3 X.1.2.2.2.2 gX9_oddsFrom_X9_term rfl rfl rfl nd_X9_term ⟨Nat.le_of_ble_eq_true rfl, Nat.le_of_ble_eq_true rfl⟩) (hh_preS X h [.long x3, .long (hh_L σ 34), .int x2]) rfl rfl hl.1 rfl (lv_room (Nat.le_of_ble_eq_true rfl)) dX9_oddsFrom_36 ⟨Nat.le_of_ble_eq_true rfl, Nat.le_of_ble_eq_true rfl⟩) (fun r2 σ3 H locs hq h => ?_)
        exact hh_lret X h hr hlocks hq dX9_oddsFrom_39
      · have hq := hq.2 c1
        refine lv_lload_n hx hb1 dX9_oddsFrom_14 rfl (lv_at hl 2 rfl) ?_
        refine lv_aload_n hx hb1 dX9_oddsFrom_15 rfl (lv_at hl 0 rfl) ?_
        refine hh_getr X h fm_0_33 in_X9_oddsFrom_X9 km_0 (by decide) (List.mem_of_getElem? (i := 2) rfl) rfl dX9_oddsFrom_16 ?_
        refine lv_iload hx hb1 dX9_oddsFrom_19 (lv_at hl 3 rfl) ?_
        obtain ⟨h4, hq⟩ := hq
        refine hh_lld X h am_26 h4 dX9_oddsFrom_21 ?_
        refine lv_ladd hx hb1 dX9_oddsFrom_22 ?_
        refine lv_topl (fun v5 ev5 => ?_)
        have hq := hq v5 ev5
        refine lv_lstore_n (lv' := [(3, .long v5), (0, .ref (ad 0)), (2, .int x2), (5, .int x5)]) hx hb1 dX9_oddsFrom_23 rfl hl (by decide) rfl (fun ls hl => ?_)
        refine lv_iinc (v := (x5 + (1 : Int32))) (lv' := [(5, .int (x5 + (1 : Int32))), (3, .long v5), (0, .ref (ad 0)), (2, .int x2)]) hx hb1 dX9_oddsFrom_24 hl (k := 3) rfl rfl (by decide) rfl (fun ls hl => ?_)
        refine lv_goto (tgt := 5) hx hb1 dX9_oddsFrom_27 (by decide) ?_
        exact ih v5 (x5 + (1 : Int32)) σ _ _ ls hq h (lv_sub hl [2, 3, 1, 0] rfl)
  subst hargs
  refine hh_entry (vs := [.ref (ad 0), .int x1, .int x2]) (Nat.le_of_ble_eq_true rfl) (fun ls hl => ?_)
  have hl : lv_has ls 6 [(0, .ref (ad 0)), (1, .int x1), (2, .int x2)] := hl
  have hq : wp_X9_oddsFrom x1 x2 σ Q := hq
  unfold wp_X9_oddsFrom at hq
  refine lv_lconst (v := (0 : Int64)) hx hb1 dX9_oddsFrom_0 (by decide) ?_
  refine lv_lstore_n (lv' := [(3, .long (0 : Int64)), (0, .ref (ad 0)), (1, .int x1), (2, .int x2)]) hx hb1 dX9_oddsFrom_1 rfl hl (by decide) rfl (fun ls hl => ?_)
  refine lv_iload_n hx hb1 dX9_oddsFrom_2 rfl (lv_at hl 2 rfl) ?_
  refine lv_istore (lv' := [(5, .int x1), (3, .long (0 : Int64)), (0, .ref (ad 0)), (1, .int x1), (2, .int x2)]) hx hb1 dX9_oddsFrom_3 hl (by decide) rfl (fun ls hl => ?_)
  obtain ⟨n6, hq⟩ := hq
  exact lt_5 x2 n6 (0 : Int64) x1 σ _ _ ls hq h (lv_sub hl [2, 4, 1, 0] rfl)
theorem nd_X9_guessing : yX9_guessing.cls = RX9 ∧ yX9_guessing.cls ≠ "java/lang/invoke/MethodHandle" ∧ yX9_guessing.cls ≠ "java/lang/invoke/VarHandle" ∧ (parseMethodDescriptor yX9_guessing.desc).map (fun d => d.parameters.length) = some 2 := by decide +kernel
abbrev rm_X9_guessing : Room := { frames := 3, cells := 0, slots := 0, locals := 80 }
def wq_X9_guessing_31 (x1 : Int32) (x2 : Int32) (Q : Int64 → hh_S → Prop) (K31 : Int32 → hh_S → Prop) (x3 : Int32) (σ : hh_S) : Prop := (((hh_I σ 7) ≤ x3 → (wp_X9_rightBy x1 σ (fun (r2 : Int32) (σ3 : hh_S) => (wp_X9_oddsFrom r2 x2 σ3 (fun (r4 : Int64) (σ5 : hh_S) => (Q r4 σ5)))))) ∧ (¬ (hh_I σ 7) ≤ x3 → (vp_in x3 24 ∧ (((hh_rA σ 8 x3) < 0 → (K31 (x3 + (1 : Int32)) σ)) ∧ (¬ (hh_rA σ 8 x3) < 0 → (wp_X9_counts x1 x3 σ (fun (r8 : Int32) (σ9 : hh_S) => ((r8 = 0 → (K31 (x3 + (1 : Int32)) σ9)) ∧ (¬ r8 = 0 → (wp_X9_labelsOf x3 σ9 (fun (r11 : Int32) (σ12 : hh_S) => (wp_X9_drawFrom r11 σ12 (fun (σ14 : hh_S) => (K31 (x3 + (1 : Int32)) σ14))))))))))))))
def wp_X9_guessing (x1 : Int32) (x2 : Int32) (σ : hh_S) (Q : Int64 → hh_S → Prop) : Prop := (wp_X9_isHand x1 σ (fun (r15 : Int32) (σ16 : hh_S) => ((¬ r15 = 0 → (wp_X9_in x2 (0 : Int32) (1 : Int32) σ16 (fun (r18 : Int32) (σ19 : hh_S) => ((¬ r18 = 0 → (wp_X9_beginWays σ19 (fun (σ22 : hh_S) => (∃ n : Nat, hh_lp1 (wq_X9_guessing_31 x1 x2 Q) n (0 : Int32) σ22)))) ∧ (r18 = 0 → (Q (-1000000000000000002 : Int64) σ19)))))) ∧ (r15 = 0 → (Q (-1000000000000000001 : Int64) σ16)))))
theorem in_X9_guessing_X9 : ∀ w ∈ u_ws RX9 TX9 37, w ∈ wsX9_guessing := fun w h => List.mem_cons_of_mem _ (List.mem_append_right _ h)
set_option maxHeartbeats 4000000 in
set_option maxRecDepth 100000 in
theorem ad_X9_guessing {D : va_G} (l : Launch) {cy : Nat → ClassId} {ad : Nat → Nat} (J : hh_J hm_Y ad) (x1 : Int32) (x2 : Int32) (σ : hh_S) (Q : Int64 → hh_S → Prop) (hq : wp_X9_guessing x1 x2 σ Q) : Met l yX9_guessing wsX9_guessing rm_X9_guessing (va_Pc [.ref (ad 0), .int x1, .int x2] (hh_B D hh_cl hm_Y cy ad σ)) (va_Ql Q (hh_B D hh_cl hm_Y cy ad) (hh_A hm_Y ad)) 0 0 (hh_A hm_Y ad) := by
  refine Met.ofW (cc := cX9_guessing) (maxL := 4) (ret := (some .long)) (by decide) rfl ?_
  intro p e s m args below meth c s₁ B hml hv
  obtain ⟨hargs, hP0, hK0⟩ := hv
  have hr := B.returns
  have hlocks := B.notSynchronized
  have X : hh_X p m c cX9_guessing 4 s args wsX9_guessing RX9 D hh_cl hm_Y cy ad := ⟨⟨B.exec, B.bytes, hml, findClass_of_methodNamed B.named, atoms_spec (ws := wsX9_guessing) B.pre⟩, hK0, J⟩
  have hx := X.1.1
  have hb1 := X.1.2.1
  have h : hh_H D hh_cl hm_Y cy ad s.heap σ s.heap [] := ⟨hP0, va_S.rf⟩
  have lt_31 : ∀ (x1 : Int32) (x2 : Int32) (n : Nat) (x3 : Int32) (σ : hh_S) (H : Heap) (locs : List Loc) (ls : Array Slot), hh_lp1 (wq_X9_guessing_31 x1 x2 Q) n x3 σ → hh_H D hh_cl hm_Y cy ad s.heap σ H locs → lv_has ls 4 [(0, .ref (ad 0)), (1, .int x1), (2, .int x2), (3, .int x3)] → W p l e (headSpec wsX9_guessing rm_X9_guessing).room s m args below meth c H locs 0 0 (MQ below (va_Ql Q (hh_B D hh_cl hm_Y cy ad) (hh_A hm_Y ad)) args s 0 0 (hh_A hm_Y ad)) (F0 m 31 ls []) := by
    intro x1 x2 n
    induction n with
    | zero => intro x3 σ H locs ls hq h hl; exact hq.elim
    | succ n ih =>
      intro x3 σ H locs ls hq h hl
      have hq : wq_X9_guessing_31 x1 x2 Q (hh_lp1 (wq_X9_guessing_31 x1 x2 Q) n) x3 σ := hq
      unfold wq_X9_guessing_31 at hq
      refine lv_iload_n hx hb1 dX9_guessing_31 rfl (lv_at hl 3 rfl) ?_
      refine lv_aload_n hx hb1 dX9_guessing_32 rfl (lv_at hl 0 rfl) ?_
      refine hh_geti X h (q := 7) fm_0_7 rfl in_X9_guessing_X9 km_0 (by decide) (List.mem_of_getElem? (i := 3) rfl) rfl dX9_guessing_33 ?_
      refine lv_icmp_ge (tgt := 72) hx hb1 dX9_guessing_36 (by decide) (fun c1 => ?_) (fun c1 => ?_)
      · have hq := hq.1 c1
        refine lv_aload_n hx hb1 dX9_guessing_72 rfl (lv_at hl 0 rfl) ?_
        refine lv_aload_n hx hb1 dX9_guessing_73 rfl (lv_at hl 0 rfl) ?_
        refine lv_iload_n hx hb1 dX9_guessing_74 rfl (lv_at hl 1 rfl) ?_
        refine hh_kI h (va_runV (As := [.int x1]) (rest := [.ref (ad 0)]) X.1 (ad_X9_rightBy (D := D) l J x1 σ _ hq) (cwV 1 X.1.2.2.2.2 gX9_guessing_X9_rightBy rfl rfl rfl nd_X9_rightBy ⟨Nat.le_of_ble_eq_true rfl, Nat.le_of_ble_eq_true rfl⟩) (hh_preV X h fm_0_0 km_0 [.int x1]) rfl rfl hl.1 rfl (lv_room (Nat.le_of_ble_eq_true rfl)) dX9_guessing_75 ⟨Nat.le_of_ble_eq_true rfl, Nat.le_of_ble_eq_true rfl⟩) (fun r2 σ3 H locs hq h => ?_)
        refine lv_iload_n hx hb1 dX9_guessing_78 rfl (lv_at hl 2 rfl) ?_
        refine hh_kL h (va_runV (As := [.int r2, .int x2]) (rest := []) X.1 (ad_X9_oddsFrom (D := D) l J r2 x2 σ3 _ hq) (cwV 2 X.1.2.2.2.2 gX9_guessing_X9_oddsFrom rfl rfl rfl nd_X9_oddsFrom ⟨Nat.le_of_ble_eq_true rfl, Nat.le_of_ble_eq_true rfl⟩) (hh_preV X h fm_0_0 km_0 [.int r2, .int x2]) rfl rfl hl.1 rfl (lv_room (Nat.le_of_ble_eq_true rfl)) dX9_guessing_79 ⟨Nat.le_of_ble_eq_true rfl, Nat.le_of_ble_eq_true rfl⟩) (fun r4 σ5 H locs hq h => ?_)
        exact hh_lret X h hr hlocks hq dX9_guessing_82
      · have hq := hq.2 c1
        refine lv_aload_n hx hb1 dX9_guessing_39 rfl (lv_at hl 0 rfl) ?_
        refine hh_getr X h fm_0_10 in_X9_guessing_X9 km_0 (by decide) (List.mem_of_getElem? (i := 4) rfl) rfl dX9_guessing_40 ?_
        refine lv_iload_n hx hb1 dX9_guessing_43 rfl (lv_at hl 3 rfl) ?_
        obtain ⟨h6, hq⟩ := hq
        refine hh_ild X h am_8 h6 dX9_guessing_44 ?_
        refine lv_if_lt (tgt := 66) hx hb1 dX9_guessing_45 (by decide) (fun c7 => ?_) (fun c7 => ?_)
        · have hq := hq.1 c7
          refine lv_iinc (v := (x3 + (1 : Int32))) (lv' := [(3, .int (x3 + (1 : Int32))), (0, .ref (ad 0)), (1, .int x1), (2, .int x2)]) hx hb1 dX9_guessing_66 hl (k := 3) rfl rfl (by decide) rfl (fun ls hl => ?_)
          refine lv_goto (tgt := 31) hx hb1 dX9_guessing_69 (by decide) ?_
          exact ih (x3 + (1 : Int32)) σ _ _ ls hq h (lv_sub hl [1, 2, 3, 0] rfl)
        · have hq := hq.2 c7
          refine lv_aload_n hx hb1 dX9_guessing_48 rfl (lv_at hl 0 rfl) ?_
          refine lv_iload_n hx hb1 dX9_guessing_49 rfl (lv_at hl 1 rfl) ?_
          refine lv_iload_n hx hb1 dX9_guessing_50 rfl (lv_at hl 3 rfl) ?_
          refine hh_kI h (va_runV (As := [.int x1, .int x3]) (rest := []) X.1 (ad_X9_counts (D := D) l J x1 x3 σ _ hq) (cwV 2 X.1.2.2.2.2 gX9_guessing_X9_counts rfl rfl rfl nd_X9_counts ⟨Nat.le_of_ble_eq_true rfl, Nat.le_of_ble_eq_true rfl⟩) (hh_preV X h fm_0_0 km_0 [.int x1, .int x3]) rfl rfl hl.1 rfl (lv_room (Nat.le_of_ble_eq_true rfl)) dX9_guessing_51 ⟨Nat.le_of_ble_eq_true rfl, Nat.le_of_ble_eq_true rfl⟩) (fun r8 σ9 H locs hq h => ?_)
          refine lv_if_eq (tgt := 66) hx hb1 dX9_guessing_54 (by decide) (fun c10 => ?_) (fun c10 => ?_)
          · have hq := hq.1 c10
            refine lv_iinc (v := (x3 + (1 : Int32))) (lv' := [(3, .int (x3 + (1 : Int32))), (0, .ref (ad 0)), (1, .int x1), (2, .int x2)]) hx hb1 dX9_guessing_66 hl (k := 3) rfl rfl (by decide) rfl (fun ls hl => ?_)
            refine lv_goto (tgt := 31) hx hb1 dX9_guessing_69 (by decide) ?_
            exact ih (x3 + (1 : Int32)) σ9 _ _ ls hq h (lv_sub hl [1, 2, 3, 0] rfl)
          · have hq := hq.2 c10
            refine lv_aload_n hx hb1 dX9_guessing_57 rfl (lv_at hl 0 rfl) ?_
            refine lv_aload_n hx hb1 dX9_guessing_58 rfl (lv_at hl 0 rfl) ?_
            refine lv_iload_n hx hb1 dX9_guessing_59 rfl (lv_at hl 3 rfl) ?_
            refine hh_kI h (va_runV (As := [.int x3]) (rest := [.ref (ad 0)]) X.1 (ad_X9_labelsOf (D := D) l J x3 σ9 _ hq) (cwV 1 X.1.2.2.2.2 gX9_guessing_X9_labelsOf rfl rfl rfl nd_X9_labelsOf ⟨Nat.le_of_ble_eq_true rfl, Nat.le_of_ble_eq_true rfl⟩) (hh_preV X h fm_0_0 km_0 [.int x3]) rfl rfl hl.1 rfl (lv_room (Nat.le_of_ble_eq_true rfl)) dX9_guessing_60 ⟨Nat.le_of_ble_eq_true rfl, Nat.le_of_ble_eq_true rfl⟩) (fun r11 σ12 H locs hq h => ?_)
            refine hh_kV h (va_runV (As := [.int r11]) (rest := []) X.1 (ad_X9_drawFrom (D := D) l J r11 σ12 _ hq) (cwV 1 X.1.2.2.2.2 gX9_guessing_X9_drawFrom rfl rfl rfl nd_X9_drawFrom ⟨Nat.le_of_ble_eq_true rfl, Nat.le_of_ble_eq_true rfl⟩) (hh_preV X h fm_0_0 km_0 [.int r11]) rfl rfl hl.1 rfl (lv_room (Nat.le_of_ble_eq_true rfl)) dX9_guessing_63 ⟨Nat.le_of_ble_eq_true rfl, Nat.le_of_ble_eq_true rfl⟩) (fun σ14 H locs hq h => ?_)
            refine lv_iinc (v := (x3 + (1 : Int32))) (lv' := [(3, .int (x3 + (1 : Int32))), (0, .ref (ad 0)), (1, .int x1), (2, .int x2)]) hx hb1 dX9_guessing_66 hl (k := 3) rfl rfl (by decide) rfl (fun ls hl => ?_)
            refine lv_goto (tgt := 31) hx hb1 dX9_guessing_69 (by decide) ?_
            exact ih (x3 + (1 : Int32)) σ14 _ _ ls hq h (lv_sub hl [1, 2, 3, 0] rfl)
  subst hargs
  refine hh_entry (vs := [.ref (ad 0), .int x1, .int x2]) (Nat.le_of_ble_eq_true rfl) (fun ls hl => ?_)
  have hl : lv_has ls 4 [(0, .ref (ad 0)), (1, .int x1), (2, .int x2)] := hl
  have hq : wp_X9_guessing x1 x2 σ Q := hq
  unfold wp_X9_guessing at hq
  refine lv_aload_n hx hb1 dX9_guessing_0 rfl (lv_at hl 0 rfl) ?_
  refine lv_iload_n hx hb1 dX9_guessing_1 rfl (lv_at hl 1 rfl) ?_
  refine hh_kI h (va_runV (As := [.int x1]) (rest := []) X.1 (ad_X9_isHand (D := D) l J x1 σ _ hq) (cwV 1 X.1.2.2.2.2 gX9_guessing_X9_isHand rfl rfl rfl nd_X9_isHand ⟨Nat.le_of_ble_eq_true rfl, Nat.le_of_ble_eq_true rfl⟩) (hh_preV X h fm_0_0 km_0 [.int x1]) rfl rfl hl.1 rfl (lv_room (Nat.le_of_ble_eq_true rfl)) dX9_guessing_2 ⟨Nat.le_of_ble_eq_true rfl, Nat.le_of_ble_eq_true rfl⟩) (fun r15 σ16 H locs hq h => ?_)
  refine lv_if_ne (tgt := 12) hx hb1 dX9_guessing_5 (by decide) (fun c17 => ?_) (fun c17 => ?_)
  · have hq := hq.1 c17
    refine lv_iload_n hx hb1 dX9_guessing_12 rfl (lv_at hl 2 rfl) ?_
    refine lv_iconst (v := (0 : Int32)) hx hb1 dX9_guessing_13 (by decide) ?_
    refine lv_iconst (v := (1 : Int32)) hx hb1 dX9_guessing_14 (by decide) ?_
    refine hh_kI h (va_runS (As := [.int x2, .int (0 : Int32), .int (1 : Int32)]) (rest := []) X.1 (ad_X9_in (D := D) l J x2 (0 : Int32) (1 : Int32) σ16 _ hq) (va_cwS 3 X.1.2.2.2.2 gX9_guessing_X9_in rfl rfl rfl nd_X9_in ⟨Nat.le_of_ble_eq_true rfl, Nat.le_of_ble_eq_true rfl⟩) (hh_preS X h [.int x2, .int (0 : Int32), .int (1 : Int32)]) rfl rfl hl.1 rfl (lv_room (Nat.le_of_ble_eq_true rfl)) dX9_guessing_15 ⟨Nat.le_of_ble_eq_true rfl, Nat.le_of_ble_eq_true rfl⟩) (fun r18 σ19 H locs hq h => ?_)
    refine lv_if_ne (tgt := 25) hx hb1 dX9_guessing_18 (by decide) (fun c20 => ?_) (fun c20 => ?_)
    · have hq := hq.1 c20
      refine lv_aload_n hx hb1 dX9_guessing_25 rfl (lv_at hl 0 rfl) ?_
      refine hh_kV h (va_runV (As := []) (rest := []) X.1 (ad_X9_beginWays (D := D) l J σ19 _ hq) (cwV 0 X.1.2.2.2.2 gX9_guessing_X9_beginWays rfl rfl rfl nd_X9_beginWays ⟨Nat.le_of_ble_eq_true rfl, Nat.le_of_ble_eq_true rfl⟩) (hh_preV X h fm_0_0 km_0 []) rfl rfl hl.1 rfl (lv_room (Nat.le_of_ble_eq_true rfl)) dX9_guessing_26 ⟨Nat.le_of_ble_eq_true rfl, Nat.le_of_ble_eq_true rfl⟩) (fun σ22 H locs hq h => ?_)
      refine lv_iconst (v := (0 : Int32)) hx hb1 dX9_guessing_29 (by decide) ?_
      refine lv_istore_n (lv' := [(3, .int (0 : Int32)), (0, .ref (ad 0)), (1, .int x1), (2, .int x2)]) hx hb1 dX9_guessing_30 rfl hl (by decide) rfl (fun ls hl => ?_)
      obtain ⟨n23, hq⟩ := hq
      exact lt_31 x1 x2 n23 (0 : Int32) σ22 _ _ ls hq h (lv_sub hl [1, 2, 3, 0] rfl)
    · have hq := hq.2 c20
      refine lv_ldc2 (v := (-1000000000000000002 : Int64)) hx hb1 X.1.2.2.2.1 (X.1.2.2.2.2 _ (List.mem_of_getElem? (i := 2) rfl)) dX9_guessing_21 ?_
      exact hh_lret X h hr hlocks hq dX9_guessing_24
  · have hq := hq.2 c17
    refine lv_ldc2 (v := (-1000000000000000001 : Int64)) hx hb1 X.1.2.2.2.1 (X.1.2.2.2.2 _ (List.mem_of_getElem? (i := 1) rfl)) dX9_guessing_8 ?_
    exact hh_lret X h hr hlocks hq dX9_guessing_11
theorem nd_X9_copying : yX9_copying.cls = RX9 ∧ yX9_copying.cls ≠ "java/lang/invoke/MethodHandle" ∧ yX9_copying.cls ≠ "java/lang/invoke/VarHandle" ∧ (parseMethodDescriptor yX9_copying.desc).map (fun d => d.parameters.length) = some 3 := by decide +kernel
abbrev rm_X9_copying : Room := { frames := 3, cells := 0, slots := 0, locals := 80 }
def wq_X9_copying_48 (x1 : Int32) (x2 : Int32) (x3 : Int32) (Q : Int64 → hh_S → Prop) (K48 : Int32 → Int32 → hh_S → Prop) (x4 : Int32) (x5 : Int32) (σ : hh_S) : Prop := (((hh_I σ 7) ≤ x5 → (wp_X9_oddsFrom x4 x3 σ (fun (r2 : Int64) (σ3 : hh_S) => (Q r2 σ3)))) ∧ (¬ (hh_I σ 7) ≤ x5 → (((14 : Int32) ≤ (hh_I σ 35) → (wp_X9_oddsFrom x4 x3 σ (fun (r5 : Int64) (σ6 : hh_S) => (Q r5 σ6)))) ∧ (¬ (14 : Int32) ≤ (hh_I σ 35) → (wp_X9_counts x1 x5 σ (fun (r7 : Int32) (σ8 : hh_S) => ((r7 = 0 → (K48 x4 (x5 + (1 : Int32)) σ8)) ∧ (¬ r7 = 0 → (wp_X9_counts x2 x5 σ8 (fun (r10 : Int32) (σ11 : hh_S) => ((r10 = 0 → (K48 x4 (x5 + (1 : Int32)) σ11)) ∧ (¬ r10 = 0 → (wp_X9_labelsOf x5 σ11 (fun (r13 : Int32) (σ14 : hh_S) => (wp_X9_drawFrom r13 σ14 (fun (σ16 : hh_S) => (vp_in (((24 : Int32) * x1) + x5) 240 ∧ (vp_in (((24 : Int32) * x2) + x5) 240 ∧ ((¬ (hh_rA σ16 13 (((24 : Int32) * x1) + x5)) = (hh_rA σ16 13 (((24 : Int32) * x2) + x5)) → (∀ v20 : Int32, v20 = (x4 + (0 : Int32)) → (K48 v20 (x5 + (1 : Int32)) σ16))) ∧ ((hh_rA σ16 13 (((24 : Int32) * x1) + x5)) = (hh_rA σ16 13 (((24 : Int32) * x2) + x5)) → (∀ v21 : Int32, v21 = (x4 + (1 : Int32)) → (K48 v21 (x5 + (1 : Int32)) σ16))))))))))))))))))))))
def wp_X9_copying (x1 : Int32) (x2 : Int32) (x3 : Int32) (σ : hh_S) (Q : Int64 → hh_S → Prop) : Prop := (wp_X9_isHand x1 σ (fun (r22 : Int32) (σ23 : hh_S) => ((r22 = 0 → (Q (-1000000000000000001 : Int64) σ23)) ∧ (¬ r22 = 0 → (wp_X9_isHand x2 σ23 (fun (r25 : Int32) (σ26 : hh_S) => ((r25 = 0 → (Q (-1000000000000000001 : Int64) σ26)) ∧ (¬ r25 = 0 → ((¬ x1 = x2 → (wp_X9_in x3 (0 : Int32) (1 : Int32) σ26 (fun (r29 : Int32) (σ30 : hh_S) => ((¬ r29 = 0 → (wp_X9_beginWays σ30 (fun (σ33 : hh_S) => (∃ n : Nat, hh_lp2 (wq_X9_copying_48 x1 x2 x3 Q) n (0 : Int32) (0 : Int32) σ33)))) ∧ (r29 = 0 → (Q (-1000000000000000002 : Int64) σ30)))))) ∧ (x1 = x2 → (Q (-1000000000000000001 : Int64) σ26)))))))))))
theorem in_X9_copying_X9 : ∀ w ∈ u_ws RX9 TX9 37, w ∈ wsX9_copying := fun w h => List.mem_cons_of_mem _ (List.mem_append_right _ h)
set_option maxHeartbeats 4000000 in
set_option maxRecDepth 100000 in
theorem ad_X9_copying {D : va_G} (l : Launch) {cy : Nat → ClassId} {ad : Nat → Nat} (J : hh_J hm_Y ad) (x1 : Int32) (x2 : Int32) (x3 : Int32) (σ : hh_S) (Q : Int64 → hh_S → Prop) (hq : wp_X9_copying x1 x2 x3 σ Q) : Met l yX9_copying wsX9_copying rm_X9_copying (va_Pc [.ref (ad 0), .int x1, .int x2, .int x3] (hh_B D hh_cl hm_Y cy ad σ)) (va_Ql Q (hh_B D hh_cl hm_Y cy ad) (hh_A hm_Y ad)) 0 0 (hh_A hm_Y ad) := by
  refine Met.ofW (cc := cX9_copying) (maxL := 6) (ret := (some .long)) (by decide) rfl ?_
  intro p e s m args below meth c s₁ B hml hv
  obtain ⟨hargs, hP0, hK0⟩ := hv
  have hr := B.returns
  have hlocks := B.notSynchronized
  have X : hh_X p m c cX9_copying 6 s args wsX9_copying RX9 D hh_cl hm_Y cy ad := ⟨⟨B.exec, B.bytes, hml, findClass_of_methodNamed B.named, atoms_spec (ws := wsX9_copying) B.pre⟩, hK0, J⟩
  have hx := X.1.1
  have hb1 := X.1.2.1
  have h : hh_H D hh_cl hm_Y cy ad s.heap σ s.heap [] := ⟨hP0, va_S.rf⟩
  have lt_48 : ∀ (x1 : Int32) (x2 : Int32) (x3 : Int32) (n : Nat) (x4 : Int32) (x5 : Int32) (σ : hh_S) (H : Heap) (locs : List Loc) (ls : Array Slot), hh_lp2 (wq_X9_copying_48 x1 x2 x3 Q) n x4 x5 σ → hh_H D hh_cl hm_Y cy ad s.heap σ H locs → lv_has ls 6 [(0, .ref (ad 0)), (1, .int x1), (2, .int x2), (3, .int x3), (4, .int x4), (5, .int x5)] → W p l e (headSpec wsX9_copying rm_X9_copying).room s m args below meth c H locs 0 0 (MQ below (va_Ql Q (hh_B D hh_cl hm_Y cy ad) (hh_A hm_Y ad)) args s 0 0 (hh_A hm_Y ad)) (F0 m 48 ls []) := by
    intro x1 x2 x3 n
    induction n with
    | zero => intro x4 x5 σ H locs ls hq h hl; exact hq.elim
    | succ n ih =>
      intro x4 x5 σ H locs ls hq h hl
      have hq : wq_X9_copying_48 x1 x2 x3 Q (hh_lp2 (wq_X9_copying_48 x1 x2 x3 Q) n) x4 x5 σ := hq
      unfold wq_X9_copying_48 at hq
      refine lv_iload hx hb1 dX9_copying_48 (lv_at hl 5 rfl) ?_
      refine lv_aload_n hx hb1 dX9_copying_50 rfl (lv_at hl 0 rfl) ?_
      refine hh_geti X h (q := 7) fm_0_7 rfl in_X9_copying_X9 km_0 (by decide) (List.mem_of_getElem? (i := 3) rfl) rfl dX9_copying_51 ?_
      refine lv_icmp_ge (tgt := 139) hx hb1 dX9_copying_54 (by decide) (fun c1 => ?_) (fun c1 => ?_)
      · have hq := hq.1 c1
        refine lv_aload_n hx hb1 dX9_copying_139 rfl (lv_at hl 0 rfl) ?_
        refine lv_iload hx hb1 dX9_copying_140 (lv_at hl 4 rfl) ?_
        refine lv_iload_n hx hb1 dX9_copying_142 rfl (lv_at hl 3 rfl) ?_
        refine hh_kL h (va_runV (As := [.int x4, .int x3]) (rest := []) X.1 (ad_X9_oddsFrom (D := D) l J x4 x3 σ _ hq) (cwV 2 X.1.2.2.2.2 gX9_copying_X9_oddsFrom rfl rfl rfl nd_X9_oddsFrom ⟨Nat.le_of_ble_eq_true rfl, Nat.le_of_ble_eq_true rfl⟩) (hh_preV X h fm_0_0 km_0 [.int x4, .int x3]) rfl rfl hl.1 rfl (lv_room (Nat.le_of_ble_eq_true rfl)) dX9_copying_143 ⟨Nat.le_of_ble_eq_true rfl, Nat.le_of_ble_eq_true rfl⟩) (fun r2 σ3 H locs hq h => ?_)
        exact hh_lret X h hr hlocks hq dX9_copying_146
      · have hq := hq.2 c1
        refine lv_aload_n hx hb1 dX9_copying_57 rfl (lv_at hl 0 rfl) ?_
        refine hh_geti X h (q := 35) fm_0_35 rfl in_X9_copying_X9 km_0 (by decide) (List.mem_of_getElem? (i := 4) rfl) rfl dX9_copying_58 ?_
        refine lv_bipush (v := (14 : Int32)) hx hb1 dX9_copying_61 (by decide) ?_
        refine lv_icmp_ge (tgt := 139) hx hb1 dX9_copying_63 (by decide) (fun c4 => ?_) (fun c4 => ?_)
        · have hq := hq.1 c4
          refine lv_aload_n hx hb1 dX9_copying_139 rfl (lv_at hl 0 rfl) ?_
          refine lv_iload hx hb1 dX9_copying_140 (lv_at hl 4 rfl) ?_
          refine lv_iload_n hx hb1 dX9_copying_142 rfl (lv_at hl 3 rfl) ?_
          refine hh_kL h (va_runV (As := [.int x4, .int x3]) (rest := []) X.1 (ad_X9_oddsFrom (D := D) l J x4 x3 σ _ hq) (cwV 2 X.1.2.2.2.2 gX9_copying_X9_oddsFrom rfl rfl rfl nd_X9_oddsFrom ⟨Nat.le_of_ble_eq_true rfl, Nat.le_of_ble_eq_true rfl⟩) (hh_preV X h fm_0_0 km_0 [.int x4, .int x3]) rfl rfl hl.1 rfl (lv_room (Nat.le_of_ble_eq_true rfl)) dX9_copying_143 ⟨Nat.le_of_ble_eq_true rfl, Nat.le_of_ble_eq_true rfl⟩) (fun r5 σ6 H locs hq h => ?_)
          exact hh_lret X h hr hlocks hq dX9_copying_146
        · have hq := hq.2 c4
          refine lv_aload_n hx hb1 dX9_copying_66 rfl (lv_at hl 0 rfl) ?_
          refine lv_iload_n hx hb1 dX9_copying_67 rfl (lv_at hl 1 rfl) ?_
          refine lv_iload hx hb1 dX9_copying_68 (lv_at hl 5 rfl) ?_
          refine hh_kI h (va_runV (As := [.int x1, .int x5]) (rest := []) X.1 (ad_X9_counts (D := D) l J x1 x5 σ _ hq) (cwV 2 X.1.2.2.2.2 gX9_copying_X9_counts rfl rfl rfl nd_X9_counts ⟨Nat.le_of_ble_eq_true rfl, Nat.le_of_ble_eq_true rfl⟩) (hh_preV X h fm_0_0 km_0 [.int x1, .int x5]) rfl rfl hl.1 rfl (lv_room (Nat.le_of_ble_eq_true rfl)) dX9_copying_70 ⟨Nat.le_of_ble_eq_true rfl, Nat.le_of_ble_eq_true rfl⟩) (fun r7 σ8 H locs hq h => ?_)
          refine lv_if_eq (tgt := 133) hx hb1 dX9_copying_73 (by decide) (fun c9 => ?_) (fun c9 => ?_)
          · have hq := hq.1 c9
            refine lv_iinc (v := (x5 + (1 : Int32))) (lv' := [(5, .int (x5 + (1 : Int32))), (0, .ref (ad 0)), (1, .int x1), (2, .int x2), (3, .int x3), (4, .int x4)]) hx hb1 dX9_copying_133 hl (k := 5) rfl rfl (by decide) rfl (fun ls hl => ?_)
            refine lv_goto (tgt := 48) hx hb1 dX9_copying_136 (by decide) ?_
            exact ih x4 (x5 + (1 : Int32)) σ8 _ _ ls hq h (lv_sub hl [1, 2, 3, 4, 5, 0] rfl)
          · have hq := hq.2 c9
            refine lv_aload_n hx hb1 dX9_copying_76 rfl (lv_at hl 0 rfl) ?_
            refine lv_iload_n hx hb1 dX9_copying_77 rfl (lv_at hl 2 rfl) ?_
            refine lv_iload hx hb1 dX9_copying_78 (lv_at hl 5 rfl) ?_
            refine hh_kI h (va_runV (As := [.int x2, .int x5]) (rest := []) X.1 (ad_X9_counts (D := D) l J x2 x5 σ8 _ hq) (cwV 2 X.1.2.2.2.2 gX9_copying_X9_counts rfl rfl rfl nd_X9_counts ⟨Nat.le_of_ble_eq_true rfl, Nat.le_of_ble_eq_true rfl⟩) (hh_preV X h fm_0_0 km_0 [.int x2, .int x5]) rfl rfl hl.1 rfl (lv_room (Nat.le_of_ble_eq_true rfl)) dX9_copying_80 ⟨Nat.le_of_ble_eq_true rfl, Nat.le_of_ble_eq_true rfl⟩) (fun r10 σ11 H locs hq h => ?_)
            refine lv_if_eq (tgt := 133) hx hb1 dX9_copying_83 (by decide) (fun c12 => ?_) (fun c12 => ?_)
            · have hq := hq.1 c12
              refine lv_iinc (v := (x5 + (1 : Int32))) (lv' := [(5, .int (x5 + (1 : Int32))), (0, .ref (ad 0)), (1, .int x1), (2, .int x2), (3, .int x3), (4, .int x4)]) hx hb1 dX9_copying_133 hl (k := 5) rfl rfl (by decide) rfl (fun ls hl => ?_)
              refine lv_goto (tgt := 48) hx hb1 dX9_copying_136 (by decide) ?_
              exact ih x4 (x5 + (1 : Int32)) σ11 _ _ ls hq h (lv_sub hl [1, 2, 3, 4, 5, 0] rfl)
            · have hq := hq.2 c12
              refine lv_aload_n hx hb1 dX9_copying_86 rfl (lv_at hl 0 rfl) ?_
              refine lv_aload_n hx hb1 dX9_copying_87 rfl (lv_at hl 0 rfl) ?_
              refine lv_iload hx hb1 dX9_copying_88 (lv_at hl 5 rfl) ?_
              refine hh_kI h (va_runV (As := [.int x5]) (rest := [.ref (ad 0)]) X.1 (ad_X9_labelsOf (D := D) l J x5 σ11 _ hq) (cwV 1 X.1.2.2.2.2 gX9_copying_X9_labelsOf rfl rfl rfl nd_X9_labelsOf ⟨Nat.le_of_ble_eq_true rfl, Nat.le_of_ble_eq_true rfl⟩) (hh_preV X h fm_0_0 km_0 [.int x5]) rfl rfl hl.1 rfl (lv_room (Nat.le_of_ble_eq_true rfl)) dX9_copying_90 ⟨Nat.le_of_ble_eq_true rfl, Nat.le_of_ble_eq_true rfl⟩) (fun r13 σ14 H locs hq h => ?_)
              refine hh_kV h (va_runV (As := [.int r13]) (rest := []) X.1 (ad_X9_drawFrom (D := D) l J r13 σ14 _ hq) (cwV 1 X.1.2.2.2.2 gX9_copying_X9_drawFrom rfl rfl rfl nd_X9_drawFrom ⟨Nat.le_of_ble_eq_true rfl, Nat.le_of_ble_eq_true rfl⟩) (hh_preV X h fm_0_0 km_0 [.int r13]) rfl rfl hl.1 rfl (lv_room (Nat.le_of_ble_eq_true rfl)) dX9_copying_93 ⟨Nat.le_of_ble_eq_true rfl, Nat.le_of_ble_eq_true rfl⟩) (fun σ16 H locs hq h => ?_)
              refine lv_iload hx hb1 dX9_copying_96 (lv_at hl 4 rfl) ?_
              refine lv_aload_n hx hb1 dX9_copying_98 rfl (lv_at hl 0 rfl) ?_
              refine hh_getr X h fm_0_16 in_X9_copying_X9 km_0 (by decide) (List.mem_of_getElem? (i := 5) rfl) rfl dX9_copying_99 ?_
              refine lv_bipush (v := (24 : Int32)) hx hb1 dX9_copying_102 (by decide) ?_
              refine lv_iload_n hx hb1 dX9_copying_104 rfl (lv_at hl 1 rfl) ?_
              refine lv_imul hx hb1 dX9_copying_105 ?_
              refine lv_iload hx hb1 dX9_copying_106 (lv_at hl 5 rfl) ?_
              refine lv_iadd hx hb1 dX9_copying_108 ?_
              obtain ⟨h17, hq⟩ := hq
              refine hh_ild X h am_13 h17 dX9_copying_109 ?_
              refine lv_aload_n hx hb1 dX9_copying_110 rfl (lv_at hl 0 rfl) ?_
              refine hh_getr X h fm_0_16 in_X9_copying_X9 km_0 (by decide) (List.mem_of_getElem? (i := 5) rfl) rfl dX9_copying_111 ?_
              refine lv_bipush (v := (24 : Int32)) hx hb1 dX9_copying_114 (by decide) ?_
              refine lv_iload_n hx hb1 dX9_copying_116 rfl (lv_at hl 2 rfl) ?_
              refine lv_imul hx hb1 dX9_copying_117 ?_
              refine lv_iload hx hb1 dX9_copying_118 (lv_at hl 5 rfl) ?_
              refine lv_iadd hx hb1 dX9_copying_120 ?_
              obtain ⟨h18, hq⟩ := hq
              refine hh_ild X h am_13 h18 dX9_copying_121 ?_
              refine lv_icmp_ne (tgt := 129) hx hb1 dX9_copying_122 (by decide) (fun c19 => ?_) (fun c19 => ?_)
              · have hq := hq.1 c19
                refine lv_iconst (v := (0 : Int32)) hx hb1 dX9_copying_129 (by decide) ?_
                refine lv_iadd hx hb1 dX9_copying_130 ?_
                refine lv_topi (fun v20 ev20 => ?_)
                have hq := hq v20 ev20
                refine lv_istore (lv' := [(4, .int v20), (0, .ref (ad 0)), (1, .int x1), (2, .int x2), (3, .int x3), (5, .int x5)]) hx hb1 dX9_copying_131 hl (by decide) rfl (fun ls hl => ?_)
                refine lv_iinc (v := (x5 + (1 : Int32))) (lv' := [(5, .int (x5 + (1 : Int32))), (4, .int v20), (0, .ref (ad 0)), (1, .int x1), (2, .int x2), (3, .int x3)]) hx hb1 dX9_copying_133 hl (k := 5) rfl rfl (by decide) rfl (fun ls hl => ?_)
                refine lv_goto (tgt := 48) hx hb1 dX9_copying_136 (by decide) ?_
                exact ih v20 (x5 + (1 : Int32)) σ16 _ _ ls hq h (lv_sub hl [2, 3, 4, 5, 1, 0] rfl)
              · have hq := hq.2 c19
                refine lv_iconst (v := (1 : Int32)) hx hb1 dX9_copying_125 (by decide) ?_
                refine lv_goto (tgt := 130) hx hb1 dX9_copying_126 (by decide) ?_
                refine lv_iadd hx hb1 dX9_copying_130 ?_
                refine lv_topi (fun v21 ev21 => ?_)
                have hq := hq v21 ev21
                refine lv_istore (lv' := [(4, .int v21), (0, .ref (ad 0)), (1, .int x1), (2, .int x2), (3, .int x3), (5, .int x5)]) hx hb1 dX9_copying_131 hl (by decide) rfl (fun ls hl => ?_)
                refine lv_iinc (v := (x5 + (1 : Int32))) (lv' := [(5, .int (x5 + (1 : Int32))), (4, .int v21), (0, .ref (ad 0)), (1, .int x1), (2, .int x2), (3, .int x3)]) hx hb1 dX9_copying_133 hl (k := 5) rfl rfl (by decide) rfl (fun ls hl => ?_)
                refine lv_goto (tgt := 48) hx hb1 dX9_copying_136 (by decide) ?_
                exact ih v21 (x5 + (1 : Int32)) σ16 _ _ ls hq h (lv_sub hl [2, 3, 4, 5, 1, 0] rfl)
  subst hargs
  refine hh_entry (vs := [.ref (ad 0), .int x1, .int x2, .int x3]) (Nat.le_of_ble_eq_true rfl) (fun ls hl => ?_)
  have hl : lv_has ls 6 [(0, .ref (ad 0)), (1, .int x1), (2, .int x2), (3, .int x3)] := hl
  have hq : wp_X9_copying x1 x2 x3 σ Q := hq
  unfold wp_X9_copying at hq
  refine lv_aload_n hx hb1 dX9_copying_0 rfl (lv_at hl 0 rfl) ?_
  refine lv_iload_n hx hb1 dX9_copying_1 rfl (lv_at hl 1 rfl) ?_
  refine hh_kI h (va_runV (As := [.int x1]) (rest := []) X.1 (ad_X9_isHand (D := D) l J x1 σ _ hq) (cwV 1 X.1.2.2.2.2 gX9_copying_X9_isHand rfl rfl rfl nd_X9_isHand ⟨Nat.le_of_ble_eq_true rfl, Nat.le_of_ble_eq_true rfl⟩) (hh_preV X h fm_0_0 km_0 [.int x1]) rfl rfl hl.1 rfl (lv_room (Nat.le_of_ble_eq_true rfl)) dX9_copying_2 ⟨Nat.le_of_ble_eq_true rfl, Nat.le_of_ble_eq_true rfl⟩) (fun r22 σ23 H locs hq h => ?_)
  refine lv_if_eq (tgt := 21) hx hb1 dX9_copying_5 (by decide) (fun c24 => ?_) (fun c24 => ?_)
  · have hq := hq.1 c24
    refine lv_ldc2 (v := (-1000000000000000001 : Int64)) hx hb1 X.1.2.2.2.1 (X.1.2.2.2.2 _ (List.mem_of_getElem? (i := 1) rfl)) dX9_copying_21 ?_
    exact hh_lret X h hr hlocks hq dX9_copying_24
  · have hq := hq.2 c24
    refine lv_aload_n hx hb1 dX9_copying_8 rfl (lv_at hl 0 rfl) ?_
    refine lv_iload_n hx hb1 dX9_copying_9 rfl (lv_at hl 2 rfl) ?_
    refine hh_kI h (va_runV (As := [.int x2]) (rest := []) X.1 (ad_X9_isHand (D := D) l J x2 σ23 _ hq) (cwV 1 X.1.2.2.2.2 gX9_copying_X9_isHand rfl rfl rfl nd_X9_isHand ⟨Nat.le_of_ble_eq_true rfl, Nat.le_of_ble_eq_true rfl⟩) (hh_preV X h fm_0_0 km_0 [.int x2]) rfl rfl hl.1 rfl (lv_room (Nat.le_of_ble_eq_true rfl)) dX9_copying_10 ⟨Nat.le_of_ble_eq_true rfl, Nat.le_of_ble_eq_true rfl⟩) (fun r25 σ26 H locs hq h => ?_)
    refine lv_if_eq (tgt := 21) hx hb1 dX9_copying_13 (by decide) (fun c27 => ?_) (fun c27 => ?_)
    · have hq := hq.1 c27
      refine lv_ldc2 (v := (-1000000000000000001 : Int64)) hx hb1 X.1.2.2.2.1 (X.1.2.2.2.2 _ (List.mem_of_getElem? (i := 1) rfl)) dX9_copying_21 ?_
      exact hh_lret X h hr hlocks hq dX9_copying_24
    · have hq := hq.2 c27
      refine lv_iload_n hx hb1 dX9_copying_16 rfl (lv_at hl 1 rfl) ?_
      refine lv_iload_n hx hb1 dX9_copying_17 rfl (lv_at hl 2 rfl) ?_
      refine lv_icmp_ne (tgt := 25) hx hb1 dX9_copying_18 (by decide) (fun c28 => ?_) (fun c28 => ?_)
      · have hq := hq.1 c28
        refine lv_iload_n hx hb1 dX9_copying_25 rfl (lv_at hl 3 rfl) ?_
        refine lv_iconst (v := (0 : Int32)) hx hb1 dX9_copying_26 (by decide) ?_
        refine lv_iconst (v := (1 : Int32)) hx hb1 dX9_copying_27 (by decide) ?_
        refine hh_kI h (va_runS (As := [.int x3, .int (0 : Int32), .int (1 : Int32)]) (rest := []) X.1 (ad_X9_in (D := D) l J x3 (0 : Int32) (1 : Int32) σ26 _ hq) (va_cwS 3 X.1.2.2.2.2 gX9_copying_X9_in rfl rfl rfl nd_X9_in ⟨Nat.le_of_ble_eq_true rfl, Nat.le_of_ble_eq_true rfl⟩) (hh_preS X h [.int x3, .int (0 : Int32), .int (1 : Int32)]) rfl rfl hl.1 rfl (lv_room (Nat.le_of_ble_eq_true rfl)) dX9_copying_28 ⟨Nat.le_of_ble_eq_true rfl, Nat.le_of_ble_eq_true rfl⟩) (fun r29 σ30 H locs hq h => ?_)
        refine lv_if_ne (tgt := 38) hx hb1 dX9_copying_31 (by decide) (fun c31 => ?_) (fun c31 => ?_)
        · have hq := hq.1 c31
          refine lv_aload_n hx hb1 dX9_copying_38 rfl (lv_at hl 0 rfl) ?_
          refine hh_kV h (va_runV (As := []) (rest := []) X.1 (ad_X9_beginWays (D := D) l J σ30 _ hq) (cwV 0 X.1.2.2.2.2 gX9_copying_X9_beginWays rfl rfl rfl nd_X9_beginWays ⟨Nat.le_of_ble_eq_true rfl, Nat.le_of_ble_eq_true rfl⟩) (hh_preV X h fm_0_0 km_0 []) rfl rfl hl.1 rfl (lv_room (Nat.le_of_ble_eq_true rfl)) dX9_copying_39 ⟨Nat.le_of_ble_eq_true rfl, Nat.le_of_ble_eq_true rfl⟩) (fun σ33 H locs hq h => ?_)
          refine lv_iconst (v := (0 : Int32)) hx hb1 dX9_copying_42 (by decide) ?_
          refine lv_istore (lv' := [(4, .int (0 : Int32)), (0, .ref (ad 0)), (1, .int x1), (2, .int x2), (3, .int x3)]) hx hb1 dX9_copying_43 hl (by decide) rfl (fun ls hl => ?_)
          refine lv_iconst (v := (0 : Int32)) hx hb1 dX9_copying_45 (by decide) ?_
          refine lv_istore (lv' := [(5, .int (0 : Int32)), (4, .int (0 : Int32)), (0, .ref (ad 0)), (1, .int x1), (2, .int x2), (3, .int x3)]) hx hb1 dX9_copying_46 hl (by decide) rfl (fun ls hl => ?_)
          obtain ⟨n34, hq⟩ := hq
          exact lt_48 x1 x2 x3 n34 (0 : Int32) (0 : Int32) σ33 _ _ ls hq h (lv_sub hl [2, 3, 4, 5, 1, 0] rfl)
        · have hq := hq.2 c31
          refine lv_ldc2 (v := (-1000000000000000002 : Int64)) hx hb1 X.1.2.2.2.1 (X.1.2.2.2.2 _ (List.mem_of_getElem? (i := 2) rfl)) dX9_copying_34 ?_
          exact hh_lret X h hr hlocks hq dX9_copying_37
      · have hq := hq.2 c28
        refine lv_ldc2 (v := (-1000000000000000001 : Int64)) hx hb1 X.1.2.2.2.1 (X.1.2.2.2.2 _ (List.mem_of_getElem? (i := 1) rfl)) dX9_copying_21 ?_
        exact hh_lret X h hr hlocks hq dX9_copying_24
theorem nd_X9_misread : yX9_misread.cls = RX9 ∧ yX9_misread.cls ≠ "java/lang/invoke/MethodHandle" ∧ yX9_misread.cls ≠ "java/lang/invoke/VarHandle" ∧ (parseMethodDescriptor yX9_misread.desc).map (fun d => d.parameters.length) = some 1 := by decide +kernel
abbrev rm_X9_misread : Room := { frames := 1, cells := 0, slots := 0, locals := 22 }
def wq_X9_misread_53 (K17 : Int32 → Int32 → hh_S → Prop) (K28 : Int32 → Int32 → hh_S → Prop) (x1 : Int32) (x2 : Int32) (x3 : Int32) (x4 : Int32) (Q : Int32 → hh_S → Prop) (K53 : Int32 → Int32 → hh_S → Prop) (x5 : Int32) (x6 : Int32) (σ : hh_S) : Prop := (((hh_I σ 13) ≤ x6 → (vp_in x3 24 ∧ ((x4 = (hh_rA σ 8 x3) → (∀ v4 : Int32, v4 = (x2 ||| (0 : Int32)) → (K28 v4 (x4 + (1 : Int32)) σ))) ∧ (¬ x4 = (hh_rA σ 8 x3) → ((x5 < x1 → (∀ v6 : Int32, v6 = (x2 ||| (0 : Int32)) → (K28 v6 (x4 + (1 : Int32)) σ))) ∧ (¬ x5 < x1 → (vp_in x3 24 ∧ (∀ v8 : Int32, v8 = (x2 ||| (hh_rA σ 10 x3)) → (K28 v8 (x4 + (1 : Int32)) σ))))))))) ∧ (¬ (hh_I σ 13) ≤ x6 → (wp_X9_counts x6 x3 σ (fun (r9 : Int32) (σ10 : hh_S) => ((r9 = 0 → (∀ v12 : Int32, v12 = (x5 + (0 : Int32)) → (K53 v12 (x6 + (1 : Int32)) σ10))) ∧ (¬ r9 = 0 → (vp_in (((24 : Int32) * x6) + x3) 240 ∧ ((¬ (hh_rA σ10 13 (((24 : Int32) * x6) + x3)) = (x4 + (1 : Int32)) → (∀ v15 : Int32, v15 = (x5 + (0 : Int32)) → (K53 v15 (x6 + (1 : Int32)) σ10))) ∧ ((hh_rA σ10 13 (((24 : Int32) * x6) + x3)) = (x4 + (1 : Int32)) → (∀ v16 : Int32, v16 = (x5 + (1 : Int32)) → (K53 v16 (x6 + (1 : Int32)) σ10)))))))))))
def wq_X9_misread_28 (K17 : Int32 → Int32 → hh_S → Prop) (x1 : Int32) (x3 : Int32) (Q : Int32 → hh_S → Prop) (K28 : Int32 → Int32 → hh_S → Prop) (x2 : Int32) (x4 : Int32) (σ : hh_S) : Prop := (wp_X9_labelsOf x3 σ (fun (r17 : Int32) (σ18 : hh_S) => ((r17 ≤ x4 → (K17 x2 (x3 + (1 : Int32)) σ18)) ∧ (¬ r17 ≤ x4 → (vp_in x3 24 ∧ (((hh_rA σ18 8 x3) < 0 → (K17 x2 (x3 + (1 : Int32)) σ18)) ∧ (¬ (hh_rA σ18 8 x3) < 0 → (∃ n : Nat, hh_lp2 (wq_X9_misread_53 K17 K28 x1 x2 x3 x4 Q) n (0 : Int32) (0 : Int32) σ18))))))))
def wq_X9_misread_17 (x1 : Int32) (Q : Int32 → hh_S → Prop) (K17 : Int32 → Int32 → hh_S → Prop) (x2 : Int32) (x3 : Int32) (σ : hh_S) : Prop := (((hh_I σ 7) ≤ x3 → (Q x2 σ)) ∧ (¬ (hh_I σ 7) ≤ x3 → (∃ n : Nat, hh_lp2 (wq_X9_misread_28 K17 x1 x3 Q) n x2 (0 : Int32) σ)))
def wp_X9_misread (x1 : Int32) (σ : hh_S) (Q : Int32 → hh_S → Prop) : Prop := (wp_X9_in x1 (1 : Int32) (10 : Int32) σ (fun (r25 : Int32) (σ26 : hh_S) => ((¬ r25 = 0 → (∃ n : Nat, hh_lp2 (wq_X9_misread_17 x1 Q) n (0 : Int32) (0 : Int32) σ26)) ∧ (r25 = 0 → (Q (-2 : Int32) σ26)))))
theorem in_X9_misread_X9 : ∀ w ∈ u_ws RX9 TX9 37, w ∈ wsX9_misread := fun w h => List.mem_cons_of_mem _ (List.mem_append_right _ h)
set_option maxHeartbeats 4000000 in
set_option maxRecDepth 100000 in
theorem ad_X9_misread {D : va_G} (l : Launch) {cy : Nat → ClassId} {ad : Nat → Nat} (J : hh_J hm_Y ad) (x1 : Int32) (σ : hh_S) (Q : Int32 → hh_S → Prop) (hq : wp_X9_misread x1 σ Q) : Met l yX9_misread wsX9_misread rm_X9_misread (va_Pc [.ref (ad 0), .int x1] (hh_B D hh_cl hm_Y cy ad σ)) (va_Qi Q (hh_B D hh_cl hm_Y cy ad) (hh_A hm_Y ad)) 0 0 (hh_A hm_Y ad) := by
  refine Met.ofW (cc := cX9_misread) (maxL := 7) (ret := (some .int)) (by decide) rfl ?_
  intro p e s m args below meth c s₁ B hml hv
  obtain ⟨hargs, hP0, hK0⟩ := hv
  have hr := B.returns
  have hlocks := B.notSynchronized
  have X : hh_X p m c cX9_misread 7 s args wsX9_misread RX9 D hh_cl hm_Y cy ad := ⟨⟨B.exec, B.bytes, hml, findClass_of_methodNamed B.named, atoms_spec (ws := wsX9_misread) B.pre⟩, hK0, J⟩
  have hx := X.1.1
  have hb1 := X.1.2.1
  have h : hh_H D hh_cl hm_Y cy ad s.heap σ s.heap [] := ⟨hP0, va_S.rf⟩
  have lt_53 : ∀ (x1 : Int32) (x2 : Int32) (x3 : Int32) (x4 : Int32) (K17 : Int32 → Int32 → hh_S → Prop) (hK17 : ∀ (x2 : Int32) (x3 : Int32) (σ : hh_S) (H : Heap) (locs : List Loc) (ls : Array Slot), K17 x2 x3 σ → hh_H D hh_cl hm_Y cy ad s.heap σ H locs → lv_has ls 7 [(0, .ref (ad 0)), (1, .int x1), (2, .int x2), (3, .int x3)] → W p l e (headSpec wsX9_misread rm_X9_misread).room s m args below meth c H locs 0 0 (MQ below (va_Qi Q (hh_B D hh_cl hm_Y cy ad) (hh_A hm_Y ad)) args s 0 0 (hh_A hm_Y ad)) (F0 m 17 ls [])) (K28 : Int32 → Int32 → hh_S → Prop) (hK28 : ∀ (x2 : Int32) (x4 : Int32) (σ : hh_S) (H : Heap) (locs : List Loc) (ls : Array Slot), K28 x2 x4 σ → hh_H D hh_cl hm_Y cy ad s.heap σ H locs → lv_has ls 7 [(0, .ref (ad 0)), (1, .int x1), (2, .int x2), (3, .int x3), (4, .int x4)] → W p l e (headSpec wsX9_misread rm_X9_misread).room s m args below meth c H locs 0 0 (MQ below (va_Qi Q (hh_B D hh_cl hm_Y cy ad) (hh_A hm_Y ad)) args s 0 0 (hh_A hm_Y ad)) (F0 m 28 ls [])) (n : Nat) (x5 : Int32) (x6 : Int32) (σ : hh_S) (H : Heap) (locs : List Loc) (ls : Array Slot), hh_lp2 (wq_X9_misread_53 K17 K28 x1 x2 x3 x4 Q) n x5 x6 σ → hh_H D hh_cl hm_Y cy ad s.heap σ H locs → lv_has ls 7 [(0, .ref (ad 0)), (1, .int x1), (2, .int x2), (3, .int x3), (4, .int x4), (5, .int x5), (6, .int x6)] → W p l e (headSpec wsX9_misread rm_X9_misread).room s m args below meth c H locs 0 0 (MQ below (va_Qi Q (hh_B D hh_cl hm_Y cy ad) (hh_A hm_Y ad)) args s 0 0 (hh_A hm_Y ad)) (F0 m 53 ls []) := by
    intro x1 x2 x3 x4 K17 hK17 K28 hK28 n
    induction n with
    | zero => intro x5 x6 σ H locs ls hq h hl; exact hq.elim
    | succ n ih =>
      intro x5 x6 σ H locs ls hq h hl
      have hq : wq_X9_misread_53 K17 K28 x1 x2 x3 x4 Q (hh_lp2 (wq_X9_misread_53 K17 K28 x1 x2 x3 x4 Q) n) x5 x6 σ := hq
      unfold wq_X9_misread_53 at hq
      refine lv_iload hx hb1 dX9_misread_53 (lv_at hl 6 rfl) ?_
      refine lv_aload_n hx hb1 dX9_misread_55 rfl (lv_at hl 0 rfl) ?_
      refine hh_geti X h (q := 13) fm_0_13 rfl in_X9_misread_X9 km_0 (by decide) (List.mem_of_getElem? (i := 3) rfl) rfl dX9_misread_56 ?_
      refine lv_icmp_ge (tgt := 107) hx hb1 dX9_misread_59 (by decide) (fun c1 => ?_) (fun c1 => ?_)
      · have hq := hq.1 c1
        refine lv_iload_n hx hb1 dX9_misread_107 rfl (lv_at hl 2 rfl) ?_
        refine lv_iload hx hb1 dX9_misread_108 (lv_at hl 4 rfl) ?_
        refine lv_aload_n hx hb1 dX9_misread_110 rfl (lv_at hl 0 rfl) ?_
        refine hh_getr X h fm_0_10 in_X9_misread_X9 km_0 (by decide) (List.mem_of_getElem? (i := 2) rfl) rfl dX9_misread_111 ?_
        refine lv_iload_n hx hb1 dX9_misread_114 rfl (lv_at hl 3 rfl) ?_
        obtain ⟨h2, hq⟩ := hq
        refine hh_ild X h am_8 h2 dX9_misread_115 ?_
        refine lv_icmp_eq (tgt := 134) hx hb1 dX9_misread_116 (by decide) (fun c3 => ?_) (fun c3 => ?_)
        · have hq := hq.1 c3
          refine lv_iconst (v := (0 : Int32)) hx hb1 dX9_misread_134 (by decide) ?_
          refine lv_ior hx hb1 dX9_misread_135 ?_
          refine lv_topi (fun v4 ev4 => ?_)
          have hq := hq v4 ev4
          refine lv_istore_n (lv' := [(2, .int v4), (0, .ref (ad 0)), (1, .int x1), (3, .int x3), (4, .int x4), (5, .int x5), (6, .int x6)]) hx hb1 dX9_misread_136 rfl hl (by decide) rfl (fun ls hl => ?_)
          refine lv_iinc (v := (x4 + (1 : Int32))) (lv' := [(4, .int (x4 + (1 : Int32))), (2, .int v4), (0, .ref (ad 0)), (1, .int x1), (3, .int x3), (5, .int x5), (6, .int x6)]) hx hb1 dX9_misread_137 hl (k := 4) rfl rfl (by decide) rfl (fun ls hl => ?_)
          refine lv_goto (tgt := 28) hx hb1 dX9_misread_140 (by decide) ?_
          exact hK28 v4 (x4 + (1 : Int32)) σ _ _ ls hq h (lv_sub hl [2, 3, 1, 4, 0] rfl)
        · have hq := hq.2 c3
          refine lv_iload hx hb1 dX9_misread_119 (lv_at hl 5 rfl) ?_
          refine lv_iload_n hx hb1 dX9_misread_121 rfl (lv_at hl 1 rfl) ?_
          refine lv_icmp_lt (tgt := 134) hx hb1 dX9_misread_122 (by decide) (fun c5 => ?_) (fun c5 => ?_)
          · have hq := hq.1 c5
            refine lv_iconst (v := (0 : Int32)) hx hb1 dX9_misread_134 (by decide) ?_
            refine lv_ior hx hb1 dX9_misread_135 ?_
            refine lv_topi (fun v6 ev6 => ?_)
            have hq := hq v6 ev6
            refine lv_istore_n (lv' := [(2, .int v6), (0, .ref (ad 0)), (1, .int x1), (3, .int x3), (4, .int x4), (5, .int x5), (6, .int x6)]) hx hb1 dX9_misread_136 rfl hl (by decide) rfl (fun ls hl => ?_)
            refine lv_iinc (v := (x4 + (1 : Int32))) (lv' := [(4, .int (x4 + (1 : Int32))), (2, .int v6), (0, .ref (ad 0)), (1, .int x1), (3, .int x3), (5, .int x5), (6, .int x6)]) hx hb1 dX9_misread_137 hl (k := 4) rfl rfl (by decide) rfl (fun ls hl => ?_)
            refine lv_goto (tgt := 28) hx hb1 dX9_misread_140 (by decide) ?_
            exact hK28 v6 (x4 + (1 : Int32)) σ _ _ ls hq h (lv_sub hl [2, 3, 1, 4, 0] rfl)
          · have hq := hq.2 c5
            refine lv_aload_n hx hb1 dX9_misread_125 rfl (lv_at hl 0 rfl) ?_
            refine hh_getr X h fm_0_12 in_X9_misread_X9 km_0 (by decide) (List.mem_of_getElem? (i := 5) rfl) rfl dX9_misread_126 ?_
            refine lv_iload_n hx hb1 dX9_misread_129 rfl (lv_at hl 3 rfl) ?_
            obtain ⟨h7, hq⟩ := hq
            refine hh_ild X h am_10 h7 dX9_misread_130 ?_
            refine lv_goto (tgt := 135) hx hb1 dX9_misread_131 (by decide) ?_
            refine lv_ior hx hb1 dX9_misread_135 ?_
            refine lv_topi (fun v8 ev8 => ?_)
            have hq := hq v8 ev8
            refine lv_istore_n (lv' := [(2, .int v8), (0, .ref (ad 0)), (1, .int x1), (3, .int x3), (4, .int x4), (5, .int x5), (6, .int x6)]) hx hb1 dX9_misread_136 rfl hl (by decide) rfl (fun ls hl => ?_)
            refine lv_iinc (v := (x4 + (1 : Int32))) (lv' := [(4, .int (x4 + (1 : Int32))), (2, .int v8), (0, .ref (ad 0)), (1, .int x1), (3, .int x3), (5, .int x5), (6, .int x6)]) hx hb1 dX9_misread_137 hl (k := 4) rfl rfl (by decide) rfl (fun ls hl => ?_)
            refine lv_goto (tgt := 28) hx hb1 dX9_misread_140 (by decide) ?_
            exact hK28 v8 (x4 + (1 : Int32)) σ _ _ ls hq h (lv_sub hl [2, 3, 1, 4, 0] rfl)
      · have hq := hq.2 c1
        refine lv_iload hx hb1 dX9_misread_62 (lv_at hl 5 rfl) ?_
        refine lv_aload_n hx hb1 dX9_misread_64 rfl (lv_at hl 0 rfl) ?_
        refine lv_iload hx hb1 dX9_misread_65 (lv_at hl 6 rfl) ?_
        refine lv_iload_n hx hb1 dX9_misread_67 rfl (lv_at hl 3 rfl) ?_
        refine hh_kI h (va_runV (As := [.int x6, .int x3]) (rest := [.int x5]) X.1 (ad_X9_counts (D := D) l J x6 x3 σ _ hq) (cwV 2 X.1.2.2.2.2 gX9_misread_X9_counts rfl rfl rfl nd_X9_counts ⟨Nat.le_of_ble_eq_true rfl, Nat.le_of_ble_eq_true rfl⟩) (hh_preV X h fm_0_0 km_0 [.int x6, .int x3]) rfl rfl hl.1 rfl (lv_room (Nat.le_of_ble_eq_true rfl)) dX9_misread_68 ⟨Nat.le_of_ble_eq_true rfl, Nat.le_of_ble_eq_true rfl⟩) (fun r9 σ10 H locs hq h => ?_)
        refine lv_if_eq (tgt := 97) hx hb1 dX9_misread_71 (by decide) (fun c11 => ?_) (fun c11 => ?_)
        · have hq := hq.1 c11
          refine lv_iconst (v := (0 : Int32)) hx hb1 dX9_misread_97 (by decide) ?_
          refine lv_iadd hx hb1 dX9_misread_98 ?_
          refine lv_topi (fun v12 ev12 => ?_)
          have hq := hq v12 ev12
          refine lv_istore (lv' := [(5, .int v12), (0, .ref (ad 0)), (1, .int x1), (2, .int x2), (3, .int x3), (4, .int x4), (6, .int x6)]) hx hb1 dX9_misread_99 hl (by decide) rfl (fun ls hl => ?_)
          refine lv_iinc (v := (x6 + (1 : Int32))) (lv' := [(6, .int (x6 + (1 : Int32))), (5, .int v12), (0, .ref (ad 0)), (1, .int x1), (2, .int x2), (3, .int x3), (4, .int x4)]) hx hb1 dX9_misread_101 hl (k := 6) rfl rfl (by decide) rfl (fun ls hl => ?_)
          refine lv_goto (tgt := 53) hx hb1 dX9_misread_104 (by decide) ?_
          exact ih v12 (x6 + (1 : Int32)) σ10 _ _ ls hq h (lv_sub hl [2, 3, 4, 5, 6, 1, 0] rfl)
        · have hq := hq.2 c11
          refine lv_aload_n hx hb1 dX9_misread_74 rfl (lv_at hl 0 rfl) ?_
          refine hh_getr X h fm_0_16 in_X9_misread_X9 km_0 (by decide) (List.mem_of_getElem? (i := 4) rfl) rfl dX9_misread_75 ?_
          refine lv_bipush (v := (24 : Int32)) hx hb1 dX9_misread_78 (by decide) ?_
          refine lv_iload hx hb1 dX9_misread_80 (lv_at hl 6 rfl) ?_
          refine lv_imul hx hb1 dX9_misread_82 ?_
          refine lv_iload_n hx hb1 dX9_misread_83 rfl (lv_at hl 3 rfl) ?_
          refine lv_iadd hx hb1 dX9_misread_84 ?_
          obtain ⟨h13, hq⟩ := hq
          refine hh_ild X h am_13 h13 dX9_misread_85 ?_
          refine lv_iload hx hb1 dX9_misread_86 (lv_at hl 4 rfl) ?_
          refine lv_iconst (v := (1 : Int32)) hx hb1 dX9_misread_88 (by decide) ?_
          refine lv_iadd hx hb1 dX9_misread_89 ?_
          refine lv_icmp_ne (tgt := 97) hx hb1 dX9_misread_90 (by decide) (fun c14 => ?_) (fun c14 => ?_)
          · have hq := hq.1 c14
            refine lv_iconst (v := (0 : Int32)) hx hb1 dX9_misread_97 (by decide) ?_
            refine lv_iadd hx hb1 dX9_misread_98 ?_
            refine lv_topi (fun v15 ev15 => ?_)
            have hq := hq v15 ev15
            refine lv_istore (lv' := [(5, .int v15), (0, .ref (ad 0)), (1, .int x1), (2, .int x2), (3, .int x3), (4, .int x4), (6, .int x6)]) hx hb1 dX9_misread_99 hl (by decide) rfl (fun ls hl => ?_)
            refine lv_iinc (v := (x6 + (1 : Int32))) (lv' := [(6, .int (x6 + (1 : Int32))), (5, .int v15), (0, .ref (ad 0)), (1, .int x1), (2, .int x2), (3, .int x3), (4, .int x4)]) hx hb1 dX9_misread_101 hl (k := 6) rfl rfl (by decide) rfl (fun ls hl => ?_)
            refine lv_goto (tgt := 53) hx hb1 dX9_misread_104 (by decide) ?_
            exact ih v15 (x6 + (1 : Int32)) σ10 _ _ ls hq h (lv_sub hl [2, 3, 4, 5, 6, 1, 0] rfl)
          · have hq := hq.2 c14
            refine lv_iconst (v := (1 : Int32)) hx hb1 dX9_misread_93 (by decide) ?_
            refine lv_goto (tgt := 98) hx hb1 dX9_misread_94 (by decide) ?_
            refine lv_iadd hx hb1 dX9_misread_98 ?_
            refine lv_topi (fun v16 ev16 => ?_)
            have hq := hq v16 ev16
            refine lv_istore (lv' := [(5, .int v16), (0, .ref (ad 0)), (1, .int x1), (2, .int x2), (3, .int x3), (4, .int x4), (6, .int x6)]) hx hb1 dX9_misread_99 hl (by decide) rfl (fun ls hl => ?_)
            refine lv_iinc (v := (x6 + (1 : Int32))) (lv' := [(6, .int (x6 + (1 : Int32))), (5, .int v16), (0, .ref (ad 0)), (1, .int x1), (2, .int x2), (3, .int x3), (4, .int x4)]) hx hb1 dX9_misread_101 hl (k := 6) rfl rfl (by decide) rfl (fun ls hl => ?_)
            refine lv_goto (tgt := 53) hx hb1 dX9_misread_104 (by decide) ?_
            exact ih v16 (x6 + (1 : Int32)) σ10 _ _ ls hq h (lv_sub hl [2, 3, 4, 5, 6, 1, 0] rfl)
  have lt_28 : ∀ (x1 : Int32) (x3 : Int32) (K17 : Int32 → Int32 → hh_S → Prop) (hK17 : ∀ (x2 : Int32) (x3 : Int32) (σ : hh_S) (H : Heap) (locs : List Loc) (ls : Array Slot), K17 x2 x3 σ → hh_H D hh_cl hm_Y cy ad s.heap σ H locs → lv_has ls 7 [(0, .ref (ad 0)), (1, .int x1), (2, .int x2), (3, .int x3)] → W p l e (headSpec wsX9_misread rm_X9_misread).room s m args below meth c H locs 0 0 (MQ below (va_Qi Q (hh_B D hh_cl hm_Y cy ad) (hh_A hm_Y ad)) args s 0 0 (hh_A hm_Y ad)) (F0 m 17 ls [])) (n : Nat) (x2 : Int32) (x4 : Int32) (σ : hh_S) (H : Heap) (locs : List Loc) (ls : Array Slot), hh_lp2 (wq_X9_misread_28 K17 x1 x3 Q) n x2 x4 σ → hh_H D hh_cl hm_Y cy ad s.heap σ H locs → lv_has ls 7 [(0, .ref (ad 0)), (1, .int x1), (2, .int x2), (3, .int x3), (4, .int x4)] → W p l e (headSpec wsX9_misread rm_X9_misread).room s m args below meth c H locs 0 0 (MQ below (va_Qi Q (hh_B D hh_cl hm_Y cy ad) (hh_A hm_Y ad)) args s 0 0 (hh_A hm_Y ad)) (F0 m 28 ls []) := by
    intro x1 x3 K17 hK17 n
    induction n with
    | zero => intro x2 x4 σ H locs ls hq h hl; exact hq.elim
    | succ n ih =>
      intro x2 x4 σ H locs ls hq h hl
      have hq : wq_X9_misread_28 K17 x1 x3 Q (hh_lp2 (wq_X9_misread_28 K17 x1 x3 Q) n) x2 x4 σ := hq
      unfold wq_X9_misread_28 at hq
      refine lv_iload hx hb1 dX9_misread_28 (lv_at hl 4 rfl) ?_
      refine lv_aload_n hx hb1 dX9_misread_30 rfl (lv_at hl 0 rfl) ?_
      refine lv_iload_n hx hb1 dX9_misread_31 rfl (lv_at hl 3 rfl) ?_
      refine hh_kI h (va_runV (As := [.int x3]) (rest := [.int x4]) X.1 (ad_X9_labelsOf (D := D) l J x3 σ _ hq) (cwV 1 X.1.2.2.2.2 gX9_misread_X9_labelsOf rfl rfl rfl nd_X9_labelsOf ⟨Nat.le_of_ble_eq_true rfl, Nat.le_of_ble_eq_true rfl⟩) (hh_preV X h fm_0_0 km_0 [.int x3]) rfl rfl hl.1 rfl (lv_room (Nat.le_of_ble_eq_true rfl)) dX9_misread_32 ⟨Nat.le_of_ble_eq_true rfl, Nat.le_of_ble_eq_true rfl⟩) (fun r17 σ18 H locs hq h => ?_)
      refine lv_icmp_ge (tgt := 143) hx hb1 dX9_misread_35 (by decide) (fun c19 => ?_) (fun c19 => ?_)
      · have hq := hq.1 c19
        refine lv_iinc (v := (x3 + (1 : Int32))) (lv' := [(3, .int (x3 + (1 : Int32))), (0, .ref (ad 0)), (1, .int x1), (2, .int x2), (4, .int x4)]) hx hb1 dX9_misread_143 hl (k := 3) rfl rfl (by decide) rfl (fun ls hl => ?_)
        refine lv_goto (tgt := 17) hx hb1 dX9_misread_146 (by decide) ?_
        exact hK17 x2 (x3 + (1 : Int32)) σ18 _ _ ls hq h (lv_sub hl [1, 2, 3, 0] rfl)
      · have hq := hq.2 c19
        refine lv_aload_n hx hb1 dX9_misread_38 rfl (lv_at hl 0 rfl) ?_
        refine hh_getr X h fm_0_10 in_X9_misread_X9 km_0 (by decide) (List.mem_of_getElem? (i := 2) rfl) rfl dX9_misread_39 ?_
        refine lv_iload_n hx hb1 dX9_misread_42 rfl (lv_at hl 3 rfl) ?_
        obtain ⟨h20, hq⟩ := hq
        refine hh_ild X h am_8 h20 dX9_misread_43 ?_
        refine lv_if_lt (tgt := 143) hx hb1 dX9_misread_44 (by decide) (fun c21 => ?_) (fun c21 => ?_)
        · have hq := hq.1 c21
          refine lv_iinc (v := (x3 + (1 : Int32))) (lv' := [(3, .int (x3 + (1 : Int32))), (0, .ref (ad 0)), (1, .int x1), (2, .int x2), (4, .int x4)]) hx hb1 dX9_misread_143 hl (k := 3) rfl rfl (by decide) rfl (fun ls hl => ?_)
          refine lv_goto (tgt := 17) hx hb1 dX9_misread_146 (by decide) ?_
          exact hK17 x2 (x3 + (1 : Int32)) σ18 _ _ ls hq h (lv_sub hl [1, 2, 3, 0] rfl)
        · have hq := hq.2 c21
          refine lv_iconst (v := (0 : Int32)) hx hb1 dX9_misread_47 (by decide) ?_
          refine lv_istore (lv' := [(5, .int (0 : Int32)), (0, .ref (ad 0)), (1, .int x1), (2, .int x2), (3, .int x3), (4, .int x4)]) hx hb1 dX9_misread_48 hl (by decide) rfl (fun ls hl => ?_)
          refine lv_iconst (v := (0 : Int32)) hx hb1 dX9_misread_50 (by decide) ?_
          refine lv_istore (lv' := [(6, .int (0 : Int32)), (5, .int (0 : Int32)), (0, .ref (ad 0)), (1, .int x1), (2, .int x2), (3, .int x3), (4, .int x4)]) hx hb1 dX9_misread_51 hl (by decide) rfl (fun ls hl => ?_)
          obtain ⟨n22, hq⟩ := hq
          exact lt_53 x1 x2 x3 x4 K17 hK17 (hh_lp2 (wq_X9_misread_28 K17 x1 x3 Q) n) ih n22 (0 : Int32) (0 : Int32) σ18 _ _ ls hq h (lv_sub hl [2, 3, 4, 5, 6, 1, 0] rfl)
  have lt_17 : ∀ (x1 : Int32) (n : Nat) (x2 : Int32) (x3 : Int32) (σ : hh_S) (H : Heap) (locs : List Loc) (ls : Array Slot), hh_lp2 (wq_X9_misread_17 x1 Q) n x2 x3 σ → hh_H D hh_cl hm_Y cy ad s.heap σ H locs → lv_has ls 7 [(0, .ref (ad 0)), (1, .int x1), (2, .int x2), (3, .int x3)] → W p l e (headSpec wsX9_misread rm_X9_misread).room s m args below meth c H locs 0 0 (MQ below (va_Qi Q (hh_B D hh_cl hm_Y cy ad) (hh_A hm_Y ad)) args s 0 0 (hh_A hm_Y ad)) (F0 m 17 ls []) := by
    intro x1 n
    induction n with
    | zero => intro x2 x3 σ H locs ls hq h hl; exact hq.elim
    | succ n ih =>
      intro x2 x3 σ H locs ls hq h hl
      have hq : wq_X9_misread_17 x1 Q (hh_lp2 (wq_X9_misread_17 x1 Q) n) x2 x3 σ := hq
      unfold wq_X9_misread_17 at hq
      refine lv_iload_n hx hb1 dX9_misread_17 rfl (lv_at hl 3 rfl) ?_
      refine lv_aload_n hx hb1 dX9_misread_18 rfl (lv_at hl 0 rfl) ?_
      refine hh_geti X h (q := 7) fm_0_7 rfl in_X9_misread_X9 km_0 (by decide) (List.mem_of_getElem? (i := 1) rfl) rfl dX9_misread_19 ?_
      refine lv_icmp_ge (tgt := 149) hx hb1 dX9_misread_22 (by decide) (fun c23 => ?_) (fun c23 => ?_)
      · have hq := hq.1 c23
        refine lv_iload_n hx hb1 dX9_misread_149 rfl (lv_at hl 2 rfl) ?_
        exact hh_iret X h hr hlocks hq dX9_misread_150
      · have hq := hq.2 c23
        refine lv_iconst (v := (0 : Int32)) hx hb1 dX9_misread_25 (by decide) ?_
        refine lv_istore (lv' := [(4, .int (0 : Int32)), (0, .ref (ad 0)), (1, .int x1), (2, .int x2), (3, .int x3)]) hx hb1 dX9_misread_26 hl (by decide) rfl (fun ls hl => ?_)
        obtain ⟨n24, hq⟩ := hq
        exact lt_28 x1 x3 (hh_lp2 (wq_X9_misread_17 x1 Q) n) ih n24 x2 (0 : Int32) σ _ _ ls hq h (lv_sub hl [1, 2, 3, 4, 0] rfl)
  subst hargs
  refine hh_entry (vs := [.ref (ad 0), .int x1]) (Nat.le_of_ble_eq_true rfl) (fun ls hl => ?_)
  have hl : lv_has ls 7 [(0, .ref (ad 0)), (1, .int x1)] := hl
  have hq : wp_X9_misread x1 σ Q := hq
  unfold wp_X9_misread at hq
  refine lv_iload_n hx hb1 dX9_misread_0 rfl (lv_at hl 1 rfl) ?_
  refine lv_iconst (v := (1 : Int32)) hx hb1 dX9_misread_1 (by decide) ?_
  refine lv_bipush (v := (10 : Int32)) hx hb1 dX9_misread_2 (by decide) ?_
  refine hh_kI h (va_runS (As := [.int x1, .int (1 : Int32), .int (10 : Int32)]) (rest := []) X.1 (ad_X9_in (D := D) l J x1 (1 : Int32) (10 : Int32) σ _ hq) (va_cwS 3 X.1.2.2.2.2 gX9_misread_X9_in rfl rfl rfl nd_X9_in ⟨Nat.le_of_ble_eq_true rfl, Nat.le_of_ble_eq_true rfl⟩) (hh_preS X h [.int x1, .int (1 : Int32), .int (10 : Int32)]) rfl rfl hl.1 rfl (lv_room (Nat.le_of_ble_eq_true rfl)) dX9_misread_4 ⟨Nat.le_of_ble_eq_true rfl, Nat.le_of_ble_eq_true rfl⟩) (fun r25 σ26 H locs hq h => ?_)
  refine lv_if_ne (tgt := 13) hx hb1 dX9_misread_7 (by decide) (fun c27 => ?_) (fun c27 => ?_)
  · have hq := hq.1 c27
    refine lv_iconst (v := (0 : Int32)) hx hb1 dX9_misread_13 (by decide) ?_
    refine lv_istore_n (lv' := [(2, .int (0 : Int32)), (0, .ref (ad 0)), (1, .int x1)]) hx hb1 dX9_misread_14 rfl hl (by decide) rfl (fun ls hl => ?_)
    refine lv_iconst (v := (0 : Int32)) hx hb1 dX9_misread_15 (by decide) ?_
    refine lv_istore_n (lv' := [(3, .int (0 : Int32)), (2, .int (0 : Int32)), (0, .ref (ad 0)), (1, .int x1)]) hx hb1 dX9_misread_16 rfl hl (by decide) rfl (fun ls hl => ?_)
    obtain ⟨n28, hq⟩ := hq
    exact lt_17 x1 n28 (0 : Int32) (0 : Int32) σ26 _ _ ls hq h (lv_sub hl [2, 3, 1, 0] rfl)
  · have hq := hq.2 c27
    refine lv_bipush (v := (-2 : Int32)) hx hb1 dX9_misread_10 (by decide) ?_
    exact hh_iret X h hr hlocks hq dX9_misread_12
theorem nd_X9_deal : yX9_deal.cls = RX9 ∧ yX9_deal.cls ≠ "java/lang/invoke/MethodHandle" ∧ yX9_deal.cls ≠ "java/lang/invoke/VarHandle" ∧ (parseMethodDescriptor yX9_deal.desc).map (fun d => d.parameters.length) = some 1 := by decide +kernel
abbrev rm_X9_deal : Room := { frames := 1, cells := 0, slots := 0, locals := 22 }
def wq_X9_deal_22 (Q : Int32 → hh_S → Prop) (K22 : Int64 → Int32 → Int32 → hh_S → Prop) (x2 : Int64) (x4 : Int32) (x5 : Int32) (σ : hh_S) : Prop := (((hh_I σ 13) ≤ x5 → (Q x4 σ)) ∧ (¬ (hh_I σ 13) ≤ x5 → (∀ v2 : Int64, v2 = ((x2 * (16807 : Int64)) - (x2 * (16807 : Int64)) / (2147483647 : Int64) * (2147483647 : Int64)) → (vp_in x5 10 ∧ ∀ σ4 : hh_S, σ4 = hh_sA σ 12 x5 ((v2 - v2 / (2 : Int64) * (2 : Int64)).toInt32) → (vp_in x5 10 ∧ (∀ v6 : Int32, v6 = (x4 + (hh_rA σ4 12 x5)) → (K22 v2 v6 (x5 + (1 : Int32)) σ4)))))))
def wp_X9_deal (x1 : Int32) (σ : hh_S) (Q : Int32 → hh_S → Prop) : Prop := (wp_X9_in x1 (1 : Int32) (1000000 : Int32) σ (fun (r7 : Int32) (σ8 : hh_S) => ((¬ r7 = 0 → (∀ v10 : Int64, v10 = (x1.toInt64) → (∃ n : Nat, hh_lp3 (wq_X9_deal_22 Q) n v10 (0 : Int32) (0 : Int32) σ8))) ∧ (r7 = 0 → (Q (-2 : Int32) σ8)))))
theorem in_X9_deal_X9 : ∀ w ∈ u_ws RX9 TX9 37, w ∈ wsX9_deal := fun w h => List.mem_cons_of_mem _ (List.mem_append_right _ h)
set_option maxHeartbeats 4000000 in
set_option maxRecDepth 100000 in
theorem ad_X9_deal {D : va_G} (l : Launch) {cy : Nat → ClassId} {ad : Nat → Nat} (J : hh_J hm_Y ad) (x1 : Int32) (σ : hh_S) (Q : Int32 → hh_S → Prop) (hq : wp_X9_deal x1 σ Q) : Met l yX9_deal wsX9_deal rm_X9_deal (va_Pc [.ref (ad 0), .int x1] (hh_B D hh_cl hm_Y cy ad σ)) (va_Qi Q (hh_B D hh_cl hm_Y cy ad) (hh_A hm_Y ad)) 0 0 (hh_A hm_Y ad) := by
  refine Met.ofW (cc := cX9_deal) (maxL := 6) (ret := (some .int)) (by decide) rfl ?_
  intro p e s m args below meth c s₁ B hml hv
  obtain ⟨hargs, hP0, hK0⟩ := hv
  have hr := B.returns
  have hlocks := B.notSynchronized
  have X : hh_X p m c cX9_deal 6 s args wsX9_deal RX9 D hh_cl hm_Y cy ad := ⟨⟨B.exec, B.bytes, hml, findClass_of_methodNamed B.named, atoms_spec (ws := wsX9_deal) B.pre⟩, hK0, J⟩
  have hx := X.1.1
  have hb1 := X.1.2.1
  have h : hh_H D hh_cl hm_Y cy ad s.heap σ s.heap [] := ⟨hP0, va_S.rf⟩
  have lt_22 : ∀ (n : Nat) (x2 : Int64) (x4 : Int32) (x5 : Int32) (σ : hh_S) (H : Heap) (locs : List Loc) (ls : Array Slot), hh_lp3 (wq_X9_deal_22 Q) n x2 x4 x5 σ → hh_H D hh_cl hm_Y cy ad s.heap σ H locs → lv_has ls 6 [(0, .ref (ad 0)), (2, .long x2), (4, .int x4), (5, .int x5)] → W p l e (headSpec wsX9_deal rm_X9_deal).room s m args below meth c H locs 0 0 (MQ below (va_Qi Q (hh_B D hh_cl hm_Y cy ad) (hh_A hm_Y ad)) args s 0 0 (hh_A hm_Y ad)) (F0 m 22 ls []) := by
    intro n
    induction n with
    | zero => intro x2 x4 x5 σ H locs ls hq h hl; exact hq.elim
    | succ n ih =>
      intro x2 x4 x5 σ H locs ls hq h hl
      have hq : wq_X9_deal_22 Q (hh_lp3 (wq_X9_deal_22 Q) n) x2 x4 x5 σ := hq
      unfold wq_X9_deal_22 at hq
      refine lv_iload hx hb1 dX9_deal_22 (lv_at hl 3 rfl) ?_
      refine lv_aload_n hx hb1 dX9_deal_24 rfl (lv_at hl 0 rfl) ?_
      refine hh_geti X h (q := 13) fm_0_13 rfl in_X9_deal_X9 km_0 (by decide) (List.mem_of_getElem? (i := 2) rfl) rfl dX9_deal_25 ?_
      refine lv_icmp_ge (tgt := 72) hx hb1 dX9_deal_28 (by decide) (fun c1 => ?_) (fun c1 => ?_)
      · have hq := hq.1 c1
        refine lv_iload hx hb1 dX9_deal_72 (lv_at hl 2 rfl) ?_
        exact hh_iret X h hr hlocks hq dX9_deal_74
      · have hq := hq.2 c1
        refine lv_lload_n hx hb1 dX9_deal_31 rfl (lv_at hl 1 rfl) ?_
        refine lv_ldc2 (v := (16807 : Int64)) hx hb1 X.1.2.2.2.1 (X.1.2.2.2.2 _ (List.mem_of_getElem? (i := 3) rfl)) dX9_deal_32 ?_
        refine lv_lmul hx hb1 dX9_deal_35 ?_
        refine lv_ldc2 (v := (2147483647 : Int64)) hx hb1 X.1.2.2.2.1 (X.1.2.2.2.2 _ (List.mem_of_getElem? (i := 4) rfl)) dX9_deal_36 ?_
        refine lv_lrem hx hb1 dX9_deal_39 (by decide) ?_
        refine lv_topl (fun v2 ev2 => ?_)
        have hq := hq v2 ev2
        refine lv_lstore_n (lv' := [(2, .long v2), (0, .ref (ad 0)), (4, .int x4), (5, .int x5)]) hx hb1 dX9_deal_40 rfl hl (by decide) rfl (fun ls hl => ?_)
        refine lv_aload_n hx hb1 dX9_deal_41 rfl (lv_at hl 1 rfl) ?_
        refine hh_getr X h fm_0_15 in_X9_deal_X9 km_0 (by decide) (List.mem_of_getElem? (i := 5) rfl) rfl dX9_deal_42 ?_
        refine lv_iload hx hb1 dX9_deal_45 (lv_at hl 3 rfl) ?_
        refine lv_lload_n hx hb1 dX9_deal_47 rfl (lv_at hl 0 rfl) ?_
        refine lv_ldc2 (v := (2 : Int64)) hx hb1 X.1.2.2.2.1 (X.1.2.2.2.2 _ (List.mem_of_getElem? (i := 6) rfl)) dX9_deal_48 ?_
        refine lv_lrem hx hb1 dX9_deal_51 (by decide) ?_
        refine lv_l2i (v := ((v2 - v2 / (2 : Int64) * (2 : Int64))).toInt32) hx hb1 dX9_deal_52 rfl ?_
        obtain ⟨h3, hq⟩ := hq
        refine hh_ist X h am_12 h3 dX9_deal_53 (fun σ4 H locs eσ4 h => ?_)
        have hq := hq σ4 eσ4
        refine lv_iload hx hb1 dX9_deal_54 (lv_at hl 2 rfl) ?_
        refine lv_aload_n hx hb1 dX9_deal_56 rfl (lv_at hl 1 rfl) ?_
        refine hh_getr X h fm_0_15 in_X9_deal_X9 km_0 (by decide) (List.mem_of_getElem? (i := 5) rfl) rfl dX9_deal_57 ?_
        refine lv_iload hx hb1 dX9_deal_60 (lv_at hl 3 rfl) ?_
        obtain ⟨h5, hq⟩ := hq
        refine hh_ild X h am_12 h5 dX9_deal_62 ?_
        refine lv_iadd hx hb1 dX9_deal_63 ?_
        refine lv_topi (fun v6 ev6 => ?_)
        have hq := hq v6 ev6
        refine lv_istore (lv' := [(4, .int v6), (2, .long v2), (0, .ref (ad 0)), (5, .int x5)]) hx hb1 dX9_deal_64 hl (by decide) rfl (fun ls hl => ?_)
        refine lv_iinc (v := (x5 + (1 : Int32))) (lv' := [(5, .int (x5 + (1 : Int32))), (4, .int v6), (2, .long v2), (0, .ref (ad 0))]) hx hb1 dX9_deal_66 hl (k := 3) rfl rfl (by decide) rfl (fun ls hl => ?_)
        refine lv_goto (tgt := 22) hx hb1 dX9_deal_69 (by decide) ?_
        exact ih v2 v6 (x5 + (1 : Int32)) σ4 _ _ ls hq h (lv_sub hl [3, 2, 1, 0] rfl)
  subst hargs
  refine hh_entry (vs := [.ref (ad 0), .int x1]) (Nat.le_of_ble_eq_true rfl) (fun ls hl => ?_)
  have hl : lv_has ls 6 [(0, .ref (ad 0)), (1, .int x1)] := hl
  have hq : wp_X9_deal x1 σ Q := hq
  unfold wp_X9_deal at hq
  refine lv_iload_n hx hb1 dX9_deal_0 rfl (lv_at hl 1 rfl) ?_
  refine lv_iconst (v := (1 : Int32)) hx hb1 dX9_deal_1 (by decide) ?_
  refine lv_ldc (v := (1000000 : Int32)) hx hb1 X.1.2.2.2.1 (X.1.2.2.2.2 _ (List.mem_of_getElem? (i := 1) rfl)) dX9_deal_2 ?_
  refine hh_kI h (va_runS (As := [.int x1, .int (1 : Int32), .int (1000000 : Int32)]) (rest := []) X.1 (ad_X9_in (D := D) l J x1 (1 : Int32) (1000000 : Int32) σ _ hq) (va_cwS 3 X.1.2.2.2.2 gX9_deal_X9_in rfl rfl rfl nd_X9_in ⟨Nat.le_of_ble_eq_true rfl, Nat.le_of_ble_eq_true rfl⟩) (hh_preS X h [.int x1, .int (1 : Int32), .int (1000000 : Int32)]) rfl rfl hl.1 rfl (lv_room (Nat.le_of_ble_eq_true rfl)) dX9_deal_4 ⟨Nat.le_of_ble_eq_true rfl, Nat.le_of_ble_eq_true rfl⟩) (fun r7 σ8 H locs hq h => ?_)
  refine lv_if_ne (tgt := 13) hx hb1 dX9_deal_7 (by decide) (fun c9 => ?_) (fun c9 => ?_)
  · have hq := hq.1 c9
    refine lv_iload_n hx hb1 dX9_deal_13 rfl (lv_at hl 1 rfl) ?_
    refine lv_i2l (v := (x1).toInt64) hx hb1 dX9_deal_14 rfl ?_
    refine lv_topl (fun v10 ev10 => ?_)
    have hq := hq v10 ev10
    refine lv_lstore_n (lv' := [(2, .long v10), (0, .ref (ad 0)), (1, .int x1)]) hx hb1 dX9_deal_15 rfl hl (by decide) rfl (fun ls hl => ?_)
    refine lv_iconst (v := (0 : Int32)) hx hb1 dX9_deal_16 (by decide) ?_
    refine lv_istore (lv' := [(4, .int (0 : Int32)), (2, .long v10), (0, .ref (ad 0)), (1, .int x1)]) hx hb1 dX9_deal_17 hl (by decide) rfl (fun ls hl => ?_)
    refine lv_iconst (v := (0 : Int32)) hx hb1 dX9_deal_19 (by decide) ?_
    refine lv_istore (lv' := [(5, .int (0 : Int32)), (4, .int (0 : Int32)), (2, .long v10), (0, .ref (ad 0)), (1, .int x1)]) hx hb1 dX9_deal_20 hl (by decide) rfl (fun ls hl => ?_)
    obtain ⟨n11, hq⟩ := hq
    exact lt_22 n11 v10 (0 : Int32) (0 : Int32) σ8 _ _ ls hq h (lv_sub hl [3, 2, 1, 0] rfl)
  · have hq := hq.2 c9
    refine lv_bipush (v := (-2 : Int32)) hx hb1 dX9_deal_10 (by decide) ?_
    exact hh_iret X h hr hlocks hq dX9_deal_12
