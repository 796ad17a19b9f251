theorem nd_X5_allows : yX5_allows.cls ≠ "java/lang/invoke/MethodHandle" ∧ yX5_allows.cls ≠ "java/lang/invoke/VarHandle" ∧ (parseMethodDescriptor yX5_allows.desc).map (fun d => d.parameters.length) = some 2 := by decide +kernel
abbrev rm_X5_allows : Room := { frames := 0, cells := 0, slots := 0, locals := 0 }
def wp_X5_allows (x0 : Int32) (x1 : Int32) (σ : hh_S) (Q : Int32 → hh_S → Prop) : Prop := ((x0 < 0 → (Q (0 : Int32) σ)) ∧ (¬ x0 < 0 → (((6 : Int32) ≤ x0 → (Q (0 : Int32) σ)) ∧ (¬ (6 : Int32) ≤ x0 → (vp_in x0 6 ∧ ((x1 < (hz_low (x0).toNatClampNeg) → (Q (0 : Int32) σ)) ∧ (¬ x1 < (hz_low (x0).toNatClampNeg) → (vp_in x0 6 ∧ (((hz_high (x0).toNatClampNeg) < x1 → (Q (0 : Int32) σ)) ∧ (¬ (hz_high (x0).toNatClampNeg) < x1 → (Q (1 : Int32) σ)))))))))))
set_option maxHeartbeats 4000000 in
set_option maxRecDepth 100000 in
theorem ad_X5_allows {D : va_G} (l : Launch) {cy : Nat → ClassId} {ad : Nat → Nat} (J : hh_J hc_Y ad) (x0 : Int32) (x1 : Int32) (σ : hh_S) (Q : Int32 → hh_S → Prop) (hq : wp_X5_allows x0 x1 σ Q) : Met l yX5_allows wsX5_allows rm_X5_allows (va_Pc [.int x0, .int x1] (fun U => hh_B D hh_cl hc_Y cy ad σ U ∧ hz_Z ad U)) (va_Qi Q (hh_B D hh_cl hc_Y cy ad) (hh_A hc_Y ad)) 0 0 (hh_A hc_Y ad) := by
  refine Met.ofW (cc := cX5_allows) (maxL := 2) (ret := (some .boolean)) (by decide) rfl ?_
  intro p e s m args below meth c s₁ B hml hv
  obtain ⟨hargs, ⟨hP0, hK0⟩, hZ0⟩ := hv
  obtain ⟨t1, t2, t3, z1, T1, z2, T2, z3, T3⟩ := id hZ0
  have hr := B.returns
  have hlocks := B.notSynchronized
  have X : hh_X p m c cX5_allows 2 s args wsX5_allows RX5 D hh_cl hc_Y cy ad := ⟨⟨B.exec, B.bytes, hml, findClass_of_methodNamed B.named, atoms_spec (ws := wsX5_allows) B.pre⟩, hK0, J⟩
  have hx := X.1.1
  have hb1 := X.1.2.1
  have h : hh_H D hh_cl hc_Y cy ad s.heap σ s.heap [] := ⟨hP0, va_S.rf⟩
  subst hargs
  refine hh_entry (vs := [.int x0, .int x1]) (Nat.le_of_ble_eq_true rfl) (fun ls hl => ?_)
  have hl : lv_has ls 2 [(0, .int x0), (1, .int x1)] := hl
  have hq : wp_X5_allows x0 x1 σ Q := hq
  unfold wp_X5_allows at hq
  refine lv_iload_n hx hb1 dX5_allows_0 rfl (lv_at hl 0 rfl) ?_
  refine lv_if_lt (tgt := 34) hx hb1 dX5_allows_1 (by decide) (fun c1 => ?_) (fun c1 => ?_)
  · have hq := hq.1 c1
    refine lv_iconst (v := (0 : Int32)) hx hb1 dX5_allows_34 (by decide) ?_
    exact hh_zret X h hr hlocks rfl hq dX5_allows_35
  · have hq := hq.2 c1
    refine lv_iload_n hx hb1 dX5_allows_4 rfl (lv_at hl 0 rfl) ?_
    refine va_gets (C := RX5) (n := "FIRST") (d := "[I") (v := .ref t1) hx hb1 z1 h.2 X.1.2.2.2.1 (X.1.2.2.2.2 _ (List.mem_of_getElem? (i := 1) rfl)) (fun _ q => q) dX5_allows_5 ?_
    refine va_tlen hx hb1 T1 h.2 (v := (6 : Int32)) rfl dX5_allows_8 ?_
    refine lv_icmp_ge (tgt := 34) hx hb1 dX5_allows_9 (by decide) (fun c2 => ?_) (fun c2 => ?_)
    · have hq := hq.1 c2
      refine lv_iconst (v := (0 : Int32)) hx hb1 dX5_allows_34 (by decide) ?_
      exact hh_zret X h hr hlocks rfl hq dX5_allows_35
    · have hq := hq.2 c2
      refine lv_iload_n hx hb1 dX5_allows_12 rfl (lv_at hl 1 rfl) ?_
      refine va_gets (C := RX5) (n := "LOWEST") (d := "[I") (v := .ref t2) hx hb1 z2 h.2 X.1.2.2.2.1 (X.1.2.2.2.2 _ (List.mem_of_getElem? (i := 2) rfl)) (fun _ q => q) dX5_allows_13 ?_
      refine lv_iload_n hx hb1 dX5_allows_16 rfl (lv_at hl 0 rfl) ?_
      obtain ⟨h3, hq⟩ := hq
      refine va_ti hx hb1 T2 h.2 h3 (v := .int (hz_low (x0).toNatClampNeg)) rfl dX5_allows_17 ?_
      refine lv_icmp_lt (tgt := 34) hx hb1 dX5_allows_18 (by decide) (fun c4 => ?_) (fun c4 => ?_)
      · have hq := hq.1 c4
        refine lv_iconst (v := (0 : Int32)) hx hb1 dX5_allows_34 (by decide) ?_
        exact hh_zret X h hr hlocks rfl hq dX5_allows_35
      · have hq := hq.2 c4
        refine lv_iload_n hx hb1 dX5_allows_21 rfl (lv_at hl 1 rfl) ?_
        refine va_gets (C := RX5) (n := "HIGHEST") (d := "[I") (v := .ref t3) hx hb1 z3 h.2 X.1.2.2.2.1 (X.1.2.2.2.2 _ (List.mem_of_getElem? (i := 3) rfl)) (fun _ q => q) dX5_allows_22 ?_
        refine lv_iload_n hx hb1 dX5_allows_25 rfl (lv_at hl 0 rfl) ?_
        obtain ⟨h5, hq⟩ := hq
        refine va_ti hx hb1 T3 h.2 h5 (v := .int (hz_high (x0).toNatClampNeg)) rfl dX5_allows_26 ?_
        refine lv_icmp_gt (tgt := 34) hx hb1 dX5_allows_27 (by decide) (fun c6 => ?_) (fun c6 => ?_)
        · have hq := hq.1 c6
          refine lv_iconst (v := (0 : Int32)) hx hb1 dX5_allows_34 (by decide) ?_
          exact hh_zret X h hr hlocks rfl hq dX5_allows_35
        · have hq := hq.2 c6
          refine lv_iconst (v := (1 : Int32)) hx hb1 dX5_allows_30 (by decide) ?_
          refine lv_goto (tgt := 35) hx hb1 dX5_allows_31 (by decide) ?_
          exact hh_zret X h hr hlocks rfl hq dX5_allows_35
