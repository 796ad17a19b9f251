/-! ===== constructors ===== -/
def ki_B (D : va_G) (cy : Nat → ClassId) (ws : va_W) (sz : Nat) (U : State) : Prop := U.heap.size = sz ∧ va_P D hh_cl ws U.heap ∧ va_K D hh_cl (hh_ty cy) U ∧ va_D (fun _ => True) ws ∧ va_AOA .int U ∧ hz_ZA (va_A ws sz) U U.heap
def ki_E (D : va_G) (A : Nat → Prop) (L : (Nat → Nat) × (Nat → Nat → Nat) → va_W) (u : (Nat → Nat) × (Nat → Nat → Nat)) (t : State) : Prop := va_P D hh_cl (L u) t.heap ∧ va_D A (L u)
theorem ki_blind {D : va_G} {cy : Nat → ClassId} {ws : va_W} {sz : Nat} {av : List Value} : FrameBlind (va_Pc av (ki_B D cy ws sz)) := fun a U g mk q => ⟨q.1, q.2.1, q.2.2.1, va_K.moved (u := U) (U := U.calling g mk a) (Vm.Alike.refl U.vm) q.2.2.2.1, q.2.2.2.2.1, va_AOA.moved (u := U) (U := U.calling g mk a) (Vm.Alike.refl U.vm) q.2.2.2.2.2.1, hz_ZA.moved (u := U) (U := U.calling g mk a) (Vm.Alike.refl U.vm) q.2.2.2.2.2.2⟩
theorem ki_pre {D : va_G} {cy : Nat → ClassId} {s : State} {H : Heap} {locs : List Loc} {A : Nat → Prop} {ws : va_W} {q : Nat} {e : va_E} {As : List Value} (hK : va_K D hh_cl (hh_ty cy) s) (hAO : va_AOA .int s) (hZ : hz_ZA A s s.heap) (hP : va_P D hh_cl ws H) (hD : va_D A ws) (hS : va_S A s.heap H locs) (hFc : ∀ q', va_A [(q, e)] H.size q' → A q') (i : Nat) (hi : ws[i]? = some (q, e)) : PreS s H (va_Pc (.ref q :: As) (ki_B D cy [(q, e)] H.size)) (.ref q :: As) := by
  refine ⟨ki_blind, fun U hU hW => ⟨rfl, by rw [hU], ?_, va_K.moved hW.alike hK, ?_, va_AOA.moved hW.alike hAO, ?_⟩⟩
  · rw [hU]
    intro k x hx
    have h0 : k < 1 := (List.getElem?_eq_some_iff.mp hx).1
    rw [show k = 0 by omega] at hx
    cases hx
    exact hP i _ hi
  · refine ⟨fun a b x y ha hb _ => ?_, fun _ _ _ => trivial⟩
    have h1 : a < 1 := (List.getElem?_eq_some_iff.mp ha).1
    have h2 : b < 1 := (List.getElem?_eq_some_iff.mp hb).1
    omega
  · rw [hU]
    exact ((hz_ZA.kept hZ hS.2.1).narrow hFc).moved hW.alike
theorem ki_join {D : va_G} {A : Nat → Prop} {wr w1 : va_W} {q : Nat} {e : va_E} {H H1 : Heap} (hP : va_P D hh_cl (wr ++ [(q, e)]) H) (hD : va_D A (wr ++ [(q, e)])) (hFc : ∀ q', va_A [(q, e)] H.size q' → A q') (hk : ∀ x : Nat, x < H.size → ¬ va_A [(q, e)] H.size x → H1[x]? = H[x]?) (hP1 : va_P D hh_cl w1 H1) (hD1 : va_D (va_A [(q, e)] H.size) w1) : va_P D hh_cl (wr ++ w1) H1 ∧ va_D A (wr ++ w1) := by
  have hl : ∀ (k : Nat) (x : Nat × va_E), wr[k]? = some x → (wr ++ [(q, e)])[k]? = some x := fun k x hx => by rw [List.getElem?_append_left (List.getElem?_eq_some_iff.mp hx).1]; exact hx
  have hlast : (wr ++ [(q, e)])[wr.length]? = some (q, e) := by rw [List.getElem?_append_right (Nat.le_refl _), Nat.sub_self]; rfl
  have apart : ∀ (k : Nat) (x : Nat × va_E), wr[k]? = some x → x.1 < H.size ∧ ¬ va_A [(q, e)] H.size x.1 := by
    intro k x hx
    have h1 := (hP k x (hl k x hx)).lt
    refine ⟨h1, ?_⟩
    rintro (⟨j, e', hj⟩ | h)
    · have h0 : j < 1 := (List.getElem?_eq_some_iff.mp hj).1
      rw [show j = 0 by omega] at hj
      have hq : q = x.1 := by
        have : (q, e) = (x.1, e') := Option.some.inj hj
        exact congrArg Prod.fst this
      have := hD.1 k wr.length x (q, e) (hl k x hx) hlast hq.symm
      have hb := (List.getElem?_eq_some_iff.mp hx).1
      omega
    · omega
  have hPr : va_P D hh_cl wr H1 := fun k x hx => (hP k x (hl k x hx)).kept (hk x.1 (apart k x hx).1 (apart k x hx).2)
  refine ⟨hPr.app hP1, fun i j x y hi hj hxy => ?_, fun k x hx => ?_⟩
  · by_cases h1 : i < wr.length <;> by_cases h2 : j < wr.length
    · rw [List.getElem?_append_left h1] at hi
      rw [List.getElem?_append_left h2] at hj
      exact hD.1 i j x y (hl i x hi) (hl j y hj) hxy
    · rw [List.getElem?_append_left h1] at hi
      rw [List.getElem?_append_right (by omega)] at hj
      exact absurd (by rw [hxy]; exact hD1.2 _ _ hj) (apart i x hi).2
    · rw [List.getElem?_append_right (by omega)] at hi
      rw [List.getElem?_append_left h2] at hj
      exact absurd (by rw [← hxy]; exact hD1.2 _ _ hi) (apart j y hj).2
    · rw [List.getElem?_append_right (by omega)] at hi hj
      have := hD1.1 _ _ _ _ hi hj hxy
      omega
  · by_cases h1 : k < wr.length
    · rw [List.getElem?_append_left h1] at hx
      exact hD.2 k x (hl k x hx)
    · rw [List.getElem?_append_right (by omega)] at hx
      exact hFc _ (hD1.2 _ _ hx)
def kl_X6 (cy : Nat → ClassId) (h0 : Nat) (u : (Nat → Nat) × (Nat → Nat → Nat)) : va_W := [(h0, .inr (6, [.int 0, .ref (u.1 0), .ref (u.1 1), .ref (u.1 2), .ref (u.1 3)])), ((u.1 0), kz_i cy 8), ((u.1 1), kz_i cy 8), ((u.1 2), kz_i cy 8), ((u.1 3), kz_i cy 8)]
theorem in_X6_init_X6 : ∀ w ∈ u_ws RX6 TX6 5, w ∈ wsX6_init := fun w h => List.mem_cons_of_mem _ (List.mem_append_right _ h)
abbrev rm_X6_init : Room := { frames := 1, cells := 4, slots := 32, locals := 12 }
set_option maxHeartbeats 4000000 in
set_option maxRecDepth 100000 in
theorem ci_X6 {D : va_G} {cy : Nat → ClassId} (l : Launch) (h0 sz : Nat) : Met l yX6_init wsX6_init rm_X6_init (va_Pc [.ref h0] (ki_B D cy [(h0, .inr (6, [.int 0, .null, .null, .null, .null]))] sz)) (va_Qv (fun _ => True) (ki_E D (va_A [(h0, .inr (6, [.int 0, .null, .null, .null, .null]))] sz) (kl_X6 cy h0)) (va_A [(h0, .inr (6, [.int 0, .null, .null, .null, .null]))] sz)) 4 32 (va_A [(h0, .inr (6, [.int 0, .null, .null, .null, .null]))] sz) := by
  refine Met.ofW (cc := cX6_init) (maxL := 1) (ret := none) (by decide) rfl ?_
  intro p e s m args below meth c s₁ B hml hv
  obtain ⟨rfl, hsz, hP, hK, hD0, hAO, hZ⟩ := hv
  have hx := B.exec
  have hb := B.bytes
  have hr := B.returns
  have hts := atoms_spec (ws := wsX6_init) B.pre
  have hown : s.vm.findClass RX6 = some m.cls := findClass_of_methodNamed B.named
  have hlocks := B.notSynchronized
  have hin : meth.name = "<init>" := (name_of_methodNamed B.named B.method).1
  subst hsz
  have hD := hD0.self (sz := s.heap.size)
  generalize hAe : va_A [(h0, .inr (6, [.int 0, .null, .null, .null, .null]))] s.heap.size = A at hD hZ ⊢
  have hA : ∀ q : Nat, s.heap.size ≤ q → A q := fun q h => by rw [← hAe]; exact Or.inr h
  have hS : va_S A s.heap s.heap [] := va_S.rf
  have hP : va_P D hh_cl [(h0, .inr (6, [.int 0, .null, .null, .null, .null]))] s.heap := hP
  refine hh_entry (vs := [.ref h0]) (Nat.le_of_ble_eq_true rfl) (fun ls hl => ?_)
  have hl : lv_has ls 1 [(0, .ref h0)] := hl
  refine lv_aload_n hx hb dX6_init_0 rfl (lv_at hl 0 rfl) ?_
  refine W.objInit hx hb hown (hts _ (List.mem_of_getElem? (i := 1) rfl)) (hts _ (List.mem_of_getElem? (i := 2) rfl)) (hts _ (List.mem_of_getElem? (i := 3) rfl)) rfl (by rw [hml]; exact hl.1) rfl dX6_init_1 (Nat.le_of_ble_eq_true rfl) (Nat.le_of_ble_eq_true rfl) ?_
  refine W.eq (g2 := F0 m 4 ls []) rfl ?_
  refine lv_aload_n hx hb dX6_init_4 rfl (lv_at hl 0 rfl) ?_
  refine lv_bipush (v := (8 : Int32)) hx hb dX6_init_5 (by decide) ?_
  refine kz_newi (n := (8 : Int32)) (N' := 8) hx hb (hts _ (List.mem_of_getElem? (i := 4) rfl)) hK hP hD hS hA (by decide) (by decide) (by decide) (Nat.le_of_ble_eq_true rfl) (Nat.le_of_ble_eq_true rfl) dX6_init_7 (fun q1 H hP hD hS => ?_)
  have hP : va_P D hh_cl [(h0, .inr (6, [.int 0, .null, .null, .null, .null])), (q1, kz_i cy 8)] H := hP
  have hD : va_D A [(h0, .inr (6, [.int 0, .null, .null, .null, .null])), (q1, kz_i cy 8)] := hD
  refine W.widen (k := 1) (n := 8) (Nat.le_of_ble_eq_true rfl) (Nat.le_of_ble_eq_true rfl) ?_
  refine va_putF (D := D) (ci := 6) (v := .ref q1) (ty := .array .int) (C := RX6) (T := TX6) (N := 5) hx hb hts in_X6_init_X6 tyX6 tyX6_ok nmX6 hown hK hP hD hS 0 rfl rfl 1 (by decide) (hts _ (List.mem_of_getElem? (i := 5) rfl)) (fun _ h9 => h9) rfl hin rfl (by decide +kernel) rfl rfl (Nat.le_of_ble_eq_true rfl) dX6_init_9 (fun H locs hP hD hS => ?_)
  have hP : va_P D hh_cl [(h0, .inr (6, [.int 0, .ref q1, .null, .null, .null])), (q1, kz_i cy 8)] H := hP
  have hD : va_D A [(h0, .inr (6, [.int 0, .ref q1, .null, .null, .null])), (q1, kz_i cy 8)] := hD
  refine lv_aload_n hx hb dX6_init_12 rfl (lv_at hl 0 rfl) ?_
  refine lv_bipush (v := (8 : Int32)) hx hb dX6_init_13 (by decide) ?_
  refine kz_newi (n := (8 : Int32)) (N' := 8) hx hb (hts _ (List.mem_of_getElem? (i := 4) rfl)) hK hP hD hS hA (by decide) (by decide) (by decide) (Nat.le_of_ble_eq_true rfl) (Nat.le_of_ble_eq_true rfl) dX6_init_15 (fun q2 H hP hD hS => ?_)
  have hP : va_P D hh_cl [(h0, .inr (6, [.int 0, .ref q1, .null, .null, .null])), (q1, kz_i cy 8), (q2, kz_i cy 8)] H := hP
  have hD : va_D A [(h0, .inr (6, [.int 0, .ref q1, .null, .null, .null])), (q1, kz_i cy 8), (q2, kz_i cy 8)] := hD
  refine W.widen (k := 2) (n := 16) (Nat.le_of_ble_eq_true rfl) (Nat.le_of_ble_eq_true rfl) ?_
  refine va_putF (D := D) (ci := 6) (v := .ref q2) (ty := .array .int) (C := RX6) (T := TX6) (N := 5) hx hb hts in_X6_init_X6 tyX6 tyX6_ok nmX6 hown hK hP hD hS 0 rfl rfl 2 (by decide) (hts _ (List.mem_of_getElem? (i := 6) rfl)) (fun _ h9 => h9) rfl hin rfl (by decide +kernel) rfl rfl (Nat.le_of_ble_eq_true rfl) dX6_init_17 (fun H locs hP hD hS => ?_)
  have hP : va_P D hh_cl [(h0, .inr (6, [.int 0, .ref q1, .ref q2, .null, .null])), (q1, kz_i cy 8), (q2, kz_i cy 8)] H := hP
  have hD : va_D A [(h0, .inr (6, [.int 0, .ref q1, .ref q2, .null, .null])), (q1, kz_i cy 8), (q2, kz_i cy 8)] := hD
  refine lv_aload_n hx hb dX6_init_20 rfl (lv_at hl 0 rfl) ?_
  refine lv_bipush (v := (8 : Int32)) hx hb dX6_init_21 (by decide) ?_
  refine kz_newi (n := (8 : Int32)) (N' := 8) hx hb (hts _ (List.mem_of_getElem? (i := 4) rfl)) hK hP hD hS hA (by decide) (by decide) (by decide) (Nat.le_of_ble_eq_true rfl) (Nat.le_of_ble_eq_true rfl) dX6_init_23 (fun q3 H hP hD hS => ?_)
  have hP : va_P D hh_cl [(h0, .inr (6, [.int 0, .ref q1, .ref q2, .null, .null])), (q1, kz_i cy 8), (q2, kz_i cy 8), (q3, kz_i cy 8)] H := hP
  have hD : va_D A [(h0, .inr (6, [.int 0, .ref q1, .ref q2, .null, .null])), (q1, kz_i cy 8), (q2, kz_i cy 8), (q3, kz_i cy 8)] := hD
  refine W.widen (k := 3) (n := 24) (Nat.le_of_ble_eq_true rfl) (Nat.le_of_ble_eq_true rfl) ?_
  refine va_putF (D := D) (ci := 6) (v := .ref q3) (ty := .array .int) (C := RX6) (T := TX6) (N := 5) hx hb hts in_X6_init_X6 tyX6 tyX6_ok nmX6 hown hK hP hD hS 0 rfl rfl 3 (by decide) (hts _ (List.mem_of_getElem? (i := 7) rfl)) (fun _ h9 => h9) rfl hin rfl (by decide +kernel) rfl rfl (Nat.le_of_ble_eq_true rfl) dX6_init_25 (fun H locs hP hD hS => ?_)
  have hP : va_P D hh_cl [(h0, .inr (6, [.int 0, .ref q1, .ref q2, .ref q3, .null])), (q1, kz_i cy 8), (q2, kz_i cy 8), (q3, kz_i cy 8)] H := hP
  have hD : va_D A [(h0, .inr (6, [.int 0, .ref q1, .ref q2, .ref q3, .null])), (q1, kz_i cy 8), (q2, kz_i cy 8), (q3, kz_i cy 8)] := hD
  refine lv_aload_n hx hb dX6_init_28 rfl (lv_at hl 0 rfl) ?_
  refine lv_bipush (v := (8 : Int32)) hx hb dX6_init_29 (by decide) ?_
  refine kz_newi (n := (8 : Int32)) (N' := 8) hx hb (hts _ (List.mem_of_getElem? (i := 4) rfl)) hK hP hD hS hA (by decide) (by decide) (by decide) (Nat.le_of_ble_eq_true rfl) (Nat.le_of_ble_eq_true rfl) dX6_init_31 (fun q4 H hP hD hS => ?_)
  have hP : va_P D hh_cl [(h0, .inr (6, [.int 0, .ref q1, .ref q2, .ref q3, .null])), (q1, kz_i cy 8), (q2, kz_i cy 8), (q3, kz_i cy 8), (q4, kz_i cy 8)] H := hP
  have hD : va_D A [(h0, .inr (6, [.int 0, .ref q1, .ref q2, .ref q3, .null])), (q1, kz_i cy 8), (q2, kz_i cy 8), (q3, kz_i cy 8), (q4, kz_i cy 8)] := hD
  refine W.widen (k := 4) (n := 32) (Nat.le_of_ble_eq_true rfl) (Nat.le_of_ble_eq_true rfl) ?_
  refine va_putF (D := D) (ci := 6) (v := .ref q4) (ty := .array .int) (C := RX6) (T := TX6) (N := 5) hx hb hts in_X6_init_X6 tyX6 tyX6_ok nmX6 hown hK hP hD hS 0 rfl rfl 4 (by decide) (hts _ (List.mem_of_getElem? (i := 8) rfl)) (fun _ h9 => h9) rfl hin rfl (by decide +kernel) rfl rfl (Nat.le_of_ble_eq_true rfl) dX6_init_33 (fun H locs hP hD hS => ?_)
  have hP : va_P D hh_cl [(h0, .inr (6, [.int 0, .ref q1, .ref q2, .ref q3, .ref q4])), (q1, kz_i cy 8), (q2, kz_i cy 8), (q3, kz_i cy 8), (q4, kz_i cy 8)] H := hP
  have hD : va_D A [(h0, .inr (6, [.int 0, .ref q1, .ref q2, .ref q3, .ref q4])), (q1, kz_i cy 8), (q2, kz_i cy 8), (q3, kz_i cy 8), (q4, kz_i cy 8)] := hD
  exact W.vret hx hb hr (fun t ht hW => ⟨⟨((fun k => [q1, q2, q3, q4].getD k 0, fun k => ([] : List (Nat → Nat)).getD k (fun _ => 0)) : (Nat → Nat) × (Nat → Nat → Nat)), rfl, trivial, (by rw [ht]; exact hP : va_P D hh_cl (kl_X6 cy h0 (fun k => [q1, q2, q3, q4].getD k 0, fun k => ([] : List (Nat → Nat)).getD k (fun _ => 0))) t.heap), hD⟩, hS.F ht⟩) hS.2.2 dX6_init_36
def kl_X1 (cy : Nat → ClassId) (h0 : Nat) (u : (Nat → Nat) × (Nat → Nat → Nat)) : va_W := [(h0, .inr (1, [.int 0, .ref (u.1 0), .ref (u.1 1), .ref (u.1 2), .ref (u.1 3), .ref (u.1 4), .ref (u.1 5)])), ((u.1 0), kz_i cy 24), ((u.1 1), kz_i cy 24), ((u.1 2), kz_i cy 24), ((u.1 3), kz_i cy 24), ((u.1 4), kz_i cy 24), ((u.1 5), kz_i cy 24)]
theorem in_X1_init_X1 : ∀ w ∈ u_ws RX1 TX1 7, w ∈ wsX1_init := fun w h => List.mem_cons_of_mem _ (List.mem_append_right _ h)
abbrev rm_X1_init : Room := { frames := 1, cells := 6, slots := 144, locals := 12 }
set_option maxHeartbeats 4000000 in
set_option maxRecDepth 100000 in
theorem ci_X1 {D : va_G} {cy : Nat → ClassId} (l : Launch) (h0 sz : Nat) : Met l yX1_init wsX1_init rm_X1_init (va_Pc [.ref h0] (ki_B D cy [(h0, .inr (1, [.int 0, .null, .null, .null, .null, .null, .null]))] sz)) (va_Qv (fun _ => True) (ki_E D (va_A [(h0, .inr (1, [.int 0, .null, .null, .null, .null, .null, .null]))] sz) (kl_X1 cy h0)) (va_A [(h0, .inr (1, [.int 0, .null, .null, .null, .null, .null, .null]))] sz)) 6 144 (va_A [(h0, .inr (1, [.int 0, .null, .null, .null, .null, .null, .null]))] sz) := by
  refine Met.ofW (cc := cX1_init) (maxL := 1) (ret := none) (by decide) rfl ?_
  intro p e s m args below meth c s₁ B hml hv
  obtain ⟨rfl, hsz, hP, hK, hD0, hAO, hZ⟩ := hv
  have hx := B.exec
  have hb := B.bytes
  have hr := B.returns
  have hts := atoms_spec (ws := wsX1_init) B.pre
  have hown : s.vm.findClass RX1 = some m.cls := findClass_of_methodNamed B.named
  have hlocks := B.notSynchronized
  have hin : meth.name = "<init>" := (name_of_methodNamed B.named B.method).1
  subst hsz
  have hD := hD0.self (sz := s.heap.size)
  generalize hAe : va_A [(h0, .inr (1, [.int 0, .null, .null, .null, .null, .null, .null]))] s.heap.size = A at hD hZ ⊢
  have hA : ∀ q : Nat, s.heap.size ≤ q → A q := fun q h => by rw [← hAe]; exact Or.inr h
  have hS : va_S A s.heap s.heap [] := va_S.rf
  have hP : va_P D hh_cl [(h0, .inr (1, [.int 0, .null, .null, .null, .null, .null, .null]))] s.heap := hP
  refine hh_entry (vs := [.ref h0]) (Nat.le_of_ble_eq_true rfl) (fun ls hl => ?_)
  have hl : lv_has ls 1 [(0, .ref h0)] := hl
  refine lv_aload_n hx hb dX1_init_0 rfl (lv_at hl 0 rfl) ?_
  refine W.objInit hx hb hown (hts _ (List.mem_of_getElem? (i := 1) rfl)) (hts _ (List.mem_of_getElem? (i := 2) rfl)) (hts _ (List.mem_of_getElem? (i := 3) rfl)) rfl (by rw [hml]; exact hl.1) rfl dX1_init_1 (Nat.le_of_ble_eq_true rfl) (Nat.le_of_ble_eq_true rfl) ?_
  refine W.eq (g2 := F0 m 4 ls []) rfl ?_
  refine lv_aload_n hx hb dX1_init_4 rfl (lv_at hl 0 rfl) ?_
  refine lv_bipush (v := (24 : Int32)) hx hb dX1_init_5 (by decide) ?_
  refine kz_newi (n := (24 : Int32)) (N' := 24) hx hb (hts _ (List.mem_of_getElem? (i := 4) rfl)) hK hP hD hS hA (by decide) (by decide) (by decide) (Nat.le_of_ble_eq_true rfl) (Nat.le_of_ble_eq_true rfl) dX1_init_7 (fun q1 H hP hD hS => ?_)
  have hP : va_P D hh_cl [(h0, .inr (1, [.int 0, .null, .null, .null, .null, .null, .null])), (q1, kz_i cy 24)] H := hP
  have hD : va_D A [(h0, .inr (1, [.int 0, .null, .null, .null, .null, .null, .null])), (q1, kz_i cy 24)] := hD
  refine W.widen (k := 1) (n := 24) (Nat.le_of_ble_eq_true rfl) (Nat.le_of_ble_eq_true rfl) ?_
  refine va_putF (D := D) (ci := 1) (v := .ref q1) (ty := .array .int) (C := RX1) (T := TX1) (N := 7) hx hb hts in_X1_init_X1 tyX1 tyX1_ok nmX1 hown hK hP hD hS 0 rfl rfl 1 (by decide) (hts _ (List.mem_of_getElem? (i := 5) rfl)) (fun _ h9 => h9) rfl hin rfl (by decide +kernel) rfl rfl (Nat.le_of_ble_eq_true rfl) dX1_init_9 (fun H locs hP hD hS => ?_)
  have hP : va_P D hh_cl [(h0, .inr (1, [.int 0, .ref q1, .null, .null, .null, .null, .null])), (q1, kz_i cy 24)] H := hP
  have hD : va_D A [(h0, .inr (1, [.int 0, .ref q1, .null, .null, .null, .null, .null])), (q1, kz_i cy 24)] := hD
  refine lv_aload_n hx hb dX1_init_12 rfl (lv_at hl 0 rfl) ?_
  refine lv_bipush (v := (24 : Int32)) hx hb dX1_init_13 (by decide) ?_
  refine kz_newi (n := (24 : Int32)) (N' := 24) hx hb (hts _ (List.mem_of_getElem? (i := 4) rfl)) hK hP hD hS hA (by decide) (by decide) (by decide) (Nat.le_of_ble_eq_true rfl) (Nat.le_of_ble_eq_true rfl) dX1_init_15 (fun q2 H hP hD hS => ?_)
  have hP : va_P D hh_cl [(h0, .inr (1, [.int 0, .ref q1, .null, .null, .null, .null, .null])), (q1, kz_i cy 24), (q2, kz_i cy 24)] H := hP
  have hD : va_D A [(h0, .inr (1, [.int 0, .ref q1, .null, .null, .null, .null, .null])), (q1, kz_i cy 24), (q2, kz_i cy 24)] := hD
  refine W.widen (k := 2) (n := 48) (Nat.le_of_ble_eq_true rfl) (Nat.le_of_ble_eq_true rfl) ?_
  refine va_putF (D := D) (ci := 1) (v := .ref q2) (ty := .array .int) (C := RX1) (T := TX1) (N := 7) hx hb hts in_X1_init_X1 tyX1 tyX1_ok nmX1 hown hK hP hD hS 0 rfl rfl 2 (by decide) (hts _ (List.mem_of_getElem? (i := 6) rfl)) (fun _ h9 => h9) rfl hin rfl (by decide +kernel) rfl rfl (Nat.le_of_ble_eq_true rfl) dX1_init_17 (fun H locs hP hD hS => ?_)
  have hP : va_P D hh_cl [(h0, .inr (1, [.int 0, .ref q1, .ref q2, .null, .null, .null, .null])), (q1, kz_i cy 24), (q2, kz_i cy 24)] H := hP
  have hD : va_D A [(h0, .inr (1, [.int 0, .ref q1, .ref q2, .null, .null, .null, .null])), (q1, kz_i cy 24), (q2, kz_i cy 24)] := hD
  refine lv_aload_n hx hb dX1_init_20 rfl (lv_at hl 0 rfl) ?_
  refine lv_bipush (v := (24 : Int32)) hx hb dX1_init_21 (by decide) ?_
  refine kz_newi (n := (24 : Int32)) (N' := 24) hx hb (hts _ (List.mem_of_getElem? (i := 4) rfl)) hK hP hD hS hA (by decide) (by decide) (by decide) (Nat.le_of_ble_eq_true rfl) (Nat.le_of_ble_eq_true rfl) dX1_init_23 (fun q3 H hP hD hS => ?_)
  have hP : va_P D hh_cl [(h0, .inr (1, [.int 0, .ref q1, .ref q2, .null, .null, .null, .null])), (q1, kz_i cy 24), (q2, kz_i cy 24), (q3, kz_i cy 24)] H := hP
  have hD : va_D A [(h0, .inr (1, [.int 0, .ref q1, .ref q2, .null, .null, .null, .null])), (q1, kz_i cy 24), (q2, kz_i cy 24), (q3, kz_i cy 24)] := hD
  refine W.widen (k := 3) (n := 72) (Nat.le_of_ble_eq_true rfl) (Nat.le_of_ble_eq_true rfl) ?_
  refine va_putF (D := D) (ci := 1) (v := .ref q3) (ty := .array .int) (C := RX1) (T := TX1) (N := 7) hx hb hts in_X1_init_X1 tyX1 tyX1_ok nmX1 hown hK hP hD hS 0 rfl rfl 3 (by decide) (hts _ (List.mem_of_getElem? (i := 7) rfl)) (fun _ h9 => h9) rfl hin rfl (by decide +kernel) rfl rfl (Nat.le_of_ble_eq_true rfl) dX1_init_25 (fun H locs hP hD hS => ?_)
  have hP : va_P D hh_cl [(h0, .inr (1, [.int 0, .ref q1, .ref q2, .ref q3, .null, .null, .null])), (q1, kz_i cy 24), (q2, kz_i cy 24), (q3, kz_i cy 24)] H := hP
  have hD : va_D A [(h0, .inr (1, [.int 0, .ref q1, .ref q2, .ref q3, .null, .null, .null])), (q1, kz_i cy 24), (q2, kz_i cy 24), (q3, kz_i cy 24)] := hD
  refine lv_aload_n hx hb dX1_init_28 rfl (lv_at hl 0 rfl) ?_
  refine lv_bipush (v := (24 : Int32)) hx hb dX1_init_29 (by decide) ?_
  refine kz_newi (n := (24 : Int32)) (N' := 24) hx hb (hts _ (List.mem_of_getElem? (i := 4) rfl)) hK hP hD hS hA (by decide) (by decide) (by decide) (Nat.le_of_ble_eq_true rfl) (Nat.le_of_ble_eq_true rfl) dX1_init_31 (fun q4 H hP hD hS => ?_)
  have hP : va_P D hh_cl [(h0, .inr (1, [.int 0, .ref q1, .ref q2, .ref q3, .null, .null, .null])), (q1, kz_i cy 24), (q2, kz_i cy 24), (q3, kz_i cy 24), (q4, kz_i cy 24)] H := hP
  have hD : va_D A [(h0, .inr (1, [.int 0, .ref q1, .ref q2, .ref q3, .null, .null, .null])), (q1, kz_i cy 24), (q2, kz_i cy 24), (q3, kz_i cy 24), (q4, kz_i cy 24)] := hD
  refine W.widen (k := 4) (n := 96) (Nat.le_of_ble_eq_true rfl) (Nat.le_of_ble_eq_true rfl) ?_
  refine va_putF (D := D) (ci := 1) (v := .ref q4) (ty := .array .int) (C := RX1) (T := TX1) (N := 7) hx hb hts in_X1_init_X1 tyX1 tyX1_ok nmX1 hown hK hP hD hS 0 rfl rfl 4 (by decide) (hts _ (List.mem_of_getElem? (i := 8) rfl)) (fun _ h9 => h9) rfl hin rfl (by decide +kernel) rfl rfl (Nat.le_of_ble_eq_true rfl) dX1_init_33 (fun H locs hP hD hS => ?_)
  have hP : va_P D hh_cl [(h0, .inr (1, [.int 0, .ref q1, .ref q2, .ref q3, .ref q4, .null, .null])), (q1, kz_i cy 24), (q2, kz_i cy 24), (q3, kz_i cy 24), (q4, kz_i cy 24)] H := hP
  have hD : va_D A [(h0, .inr (1, [.int 0, .ref q1, .ref q2, .ref q3, .ref q4, .null, .null])), (q1, kz_i cy 24), (q2, kz_i cy 24), (q3, kz_i cy 24), (q4, kz_i cy 24)] := hD
  refine lv_aload_n hx hb dX1_init_36 rfl (lv_at hl 0 rfl) ?_
  refine lv_bipush (v := (24 : Int32)) hx hb dX1_init_37 (by decide) ?_
  refine kz_newi (n := (24 : Int32)) (N' := 24) hx hb (hts _ (List.mem_of_getElem? (i := 4) rfl)) hK hP hD hS hA (by decide) (by decide) (by decide) (Nat.le_of_ble_eq_true rfl) (Nat.le_of_ble_eq_true rfl) dX1_init_39 (fun q5 H hP hD hS => ?_)
  have hP : va_P D hh_cl [(h0, .inr (1, [.int 0, .ref q1, .ref q2, .ref q3, .ref q4, .null, .null])), (q1, kz_i cy 24), (q2, kz_i cy 24), (q3, kz_i cy 24), (q4, kz_i cy 24), (q5, kz_i cy 24)] H := hP
  have hD : va_D A [(h0, .inr (1, [.int 0, .ref q1, .ref q2, .ref q3, .ref q4, .null, .null])), (q1, kz_i cy 24), (q2, kz_i cy 24), (q3, kz_i cy 24), (q4, kz_i cy 24), (q5, kz_i cy 24)] := hD
  refine W.widen (k := 5) (n := 120) (Nat.le_of_ble_eq_true rfl) (Nat.le_of_ble_eq_true rfl) ?_
  refine va_putF (D := D) (ci := 1) (v := .ref q5) (ty := .array .int) (C := RX1) (T := TX1) (N := 7) hx hb hts in_X1_init_X1 tyX1 tyX1_ok nmX1 hown hK hP hD hS 0 rfl rfl 5 (by decide) (hts _ (List.mem_of_getElem? (i := 9) rfl)) (fun _ h9 => h9) rfl hin rfl (by decide +kernel) rfl rfl (Nat.le_of_ble_eq_true rfl) dX1_init_41 (fun H locs hP hD hS => ?_)
  have hP : va_P D hh_cl [(h0, .inr (1, [.int 0, .ref q1, .ref q2, .ref q3, .ref q4, .ref q5, .null])), (q1, kz_i cy 24), (q2, kz_i cy 24), (q3, kz_i cy 24), (q4, kz_i cy 24), (q5, kz_i cy 24)] H := hP
  have hD : va_D A [(h0, .inr (1, [.int 0, .ref q1, .ref q2, .ref q3, .ref q4, .ref q5, .null])), (q1, kz_i cy 24), (q2, kz_i cy 24), (q3, kz_i cy 24), (q4, kz_i cy 24), (q5, kz_i cy 24)] := hD
  refine lv_aload_n hx hb dX1_init_44 rfl (lv_at hl 0 rfl) ?_
  refine lv_bipush (v := (24 : Int32)) hx hb dX1_init_45 (by decide) ?_
  refine kz_newi (n := (24 : Int32)) (N' := 24) hx hb (hts _ (List.mem_of_getElem? (i := 4) rfl)) hK hP hD hS hA (by decide) (by decide) (by decide) (Nat.le_of_ble_eq_true rfl) (Nat.le_of_ble_eq_true rfl) dX1_init_47 (fun q6 H hP hD hS => ?_)
  have hP : va_P D hh_cl [(h0, .inr (1, [.int 0, .ref q1, .ref q2, .ref q3, .ref q4, .ref q5, .null])), (q1, kz_i cy 24), (q2, kz_i cy 24), (q3, kz_i cy 24), (q4, kz_i cy 24), (q5, kz_i cy 24), (q6, kz_i cy 24)] H := hP
  have hD : va_D A [(h0, .inr (1, [.int 0, .ref q1, .ref q2, .ref q3, .ref q4, .ref q5, .null])), (q1, kz_i cy 24), (q2, kz_i cy 24), (q3, kz_i cy 24), (q4, kz_i cy 24), (q5, kz_i cy 24), (q6, kz_i cy 24)] := hD
  refine W.widen (k := 6) (n := 144) (Nat.le_of_ble_eq_true rfl) (Nat.le_of_ble_eq_true rfl) ?_
  refine va_putF (D := D) (ci := 1) (v := .ref q6) (ty := .array .int) (C := RX1) (T := TX1) (N := 7) hx hb hts in_X1_init_X1 tyX1 tyX1_ok nmX1 hown hK hP hD hS 0 rfl rfl 6 (by decide) (hts _ (List.mem_of_getElem? (i := 10) rfl)) (fun _ h9 => h9) rfl hin rfl (by decide +kernel) rfl rfl (Nat.le_of_ble_eq_true rfl) dX1_init_49 (fun H locs hP hD hS => ?_)
  have hP : va_P D hh_cl [(h0, .inr (1, [.int 0, .ref q1, .ref q2, .ref q3, .ref q4, .ref q5, .ref q6])), (q1, kz_i cy 24), (q2, kz_i cy 24), (q3, kz_i cy 24), (q4, kz_i cy 24), (q5, kz_i cy 24), (q6, kz_i cy 24)] H := hP
  have hD : va_D A [(h0, .inr (1, [.int 0, .ref q1, .ref q2, .ref q3, .ref q4, .ref q5, .ref q6])), (q1, kz_i cy 24), (q2, kz_i cy 24), (q3, kz_i cy 24), (q4, kz_i cy 24), (q5, kz_i cy 24), (q6, kz_i cy 24)] := hD
  exact W.vret hx hb hr (fun t ht hW => ⟨⟨((fun k => [q1, q2, q3, q4, q5, q6].getD k 0, fun k => ([] : List (Nat → Nat)).getD k (fun _ => 0)) : (Nat → Nat) × (Nat → Nat → Nat)), rfl, trivial, (by rw [ht]; exact hP : va_P D hh_cl (kl_X1 cy h0 (fun k => [q1, q2, q3, q4, q5, q6].getD k 0, fun k => ([] : List (Nat → Nat)).getD k (fun _ => 0))) t.heap), hD⟩, hS.F ht⟩) hS.2.2 dX1_init_52
def kl_X4 (cy : Nat → ClassId) (h0 : Nat) (u : (Nat → Nat) × (Nat → Nat → Nat)) : va_W := [(h0, .inr (4, [.ref (u.1 0), .ref (u.1 1)])), ((u.1 0), kz_i cy 21), ((u.1 1), kz_i cy 21)]
theorem in_X4_init_X4 : ∀ w ∈ u_ws RX4 TX4 2, w ∈ wsX4_init := fun w h => List.mem_cons_of_mem _ (List.mem_append_right _ h)
abbrev rm_X4_init : Room := { frames := 1, cells := 2, slots := 42, locals := 12 }
set_option maxHeartbeats 4000000 in
set_option maxRecDepth 100000 in
theorem ci_X4 {D : va_G} {cy : Nat → ClassId} (l : Launch) (h0 sz : Nat) : Met l yX4_init wsX4_init rm_X4_init (va_Pc [.ref h0] (ki_B D cy [(h0, .inr (4, [.null, .null]))] sz)) (va_Qv (fun _ => True) (ki_E D (va_A [(h0, .inr (4, [.null, .null]))] sz) (kl_X4 cy h0)) (va_A [(h0, .inr (4, [.null, .null]))] sz)) 2 42 (va_A [(h0, .inr (4, [.null, .null]))] sz) := by
  refine Met.ofW (cc := cX4_init) (maxL := 1) (ret := none) (by decide) rfl ?_
  intro p e s m args below meth c s₁ B hml hv
  obtain ⟨rfl, hsz, hP, hK, hD0, hAO, hZ⟩ := hv
  have hx := B.exec
  have hb := B.bytes
  have hr := B.returns
  have hts := atoms_spec (ws := wsX4_init) B.pre
  have hown : s.vm.findClass RX4 = some m.cls := findClass_of_methodNamed B.named
  have hlocks := B.notSynchronized
  have hin : meth.name = "<init>" := (name_of_methodNamed B.named B.method).1
  subst hsz
  have hD := hD0.self (sz := s.heap.size)
  generalize hAe : va_A [(h0, .inr (4, [.null, .null]))] s.heap.size = A at hD hZ ⊢
  have hA : ∀ q : Nat, s.heap.size ≤ q → A q := fun q h => by rw [← hAe]; exact Or.inr h
  have hS : va_S A s.heap s.heap [] := va_S.rf
  have hP : va_P D hh_cl [(h0, .inr (4, [.null, .null]))] s.heap := hP
  refine hh_entry (vs := [.ref h0]) (Nat.le_of_ble_eq_true rfl) (fun ls hl => ?_)
  have hl : lv_has ls 1 [(0, .ref h0)] := hl
  refine lv_aload_n hx hb dX4_init_0 rfl (lv_at hl 0 rfl) ?_
  refine W.objInit hx hb hown (hts _ (List.mem_of_getElem? (i := 1) rfl)) (hts _ (List.mem_of_getElem? (i := 2) rfl)) (hts _ (List.mem_of_getElem? (i := 3) rfl)) rfl (by rw [hml]; exact hl.1) rfl dX4_init_1 (Nat.le_of_ble_eq_true rfl) (Nat.le_of_ble_eq_true rfl) ?_
  refine W.eq (g2 := F0 m 4 ls []) rfl ?_
  refine lv_aload_n hx hb dX4_init_4 rfl (lv_at hl 0 rfl) ?_
  refine lv_bipush (v := (21 : Int32)) hx hb dX4_init_5 (by decide) ?_
  refine kz_newi (n := (21 : Int32)) (N' := 21) hx hb (hts _ (List.mem_of_getElem? (i := 4) rfl)) hK hP hD hS hA (by decide) (by decide) (by decide) (Nat.le_of_ble_eq_true rfl) (Nat.le_of_ble_eq_true rfl) dX4_init_7 (fun q1 H hP hD hS => ?_)
  have hP : va_P D hh_cl [(h0, .inr (4, [.null, .null])), (q1, kz_i cy 21)] H := hP
  have hD : va_D A [(h0, .inr (4, [.null, .null])), (q1, kz_i cy 21)] := hD
  refine W.widen (k := 1) (n := 21) (Nat.le_of_ble_eq_true rfl) (Nat.le_of_ble_eq_true rfl) ?_
  refine va_putF (D := D) (ci := 4) (v := .ref q1) (ty := .array .int) (C := RX4) (T := TX4) (N := 2) hx hb hts in_X4_init_X4 tyX4 tyX4_ok nmX4 hown hK hP hD hS 0 rfl rfl 0 (by decide) (hts _ (List.mem_of_getElem? (i := 5) rfl)) (fun _ h9 => h9) rfl hin rfl (by decide +kernel) rfl rfl (Nat.le_of_ble_eq_true rfl) dX4_init_9 (fun H locs hP hD hS => ?_)
  have hP : va_P D hh_cl [(h0, .inr (4, [.ref q1, .null])), (q1, kz_i cy 21)] H := hP
  have hD : va_D A [(h0, .inr (4, [.ref q1, .null])), (q1, kz_i cy 21)] := hD
  refine lv_aload_n hx hb dX4_init_12 rfl (lv_at hl 0 rfl) ?_
  refine lv_bipush (v := (21 : Int32)) hx hb dX4_init_13 (by decide) ?_
  refine kz_newi (n := (21 : Int32)) (N' := 21) hx hb (hts _ (List.mem_of_getElem? (i := 4) rfl)) hK hP hD hS hA (by decide) (by decide) (by decide) (Nat.le_of_ble_eq_true rfl) (Nat.le_of_ble_eq_true rfl) dX4_init_15 (fun q2 H hP hD hS => ?_)
  have hP : va_P D hh_cl [(h0, .inr (4, [.ref q1, .null])), (q1, kz_i cy 21), (q2, kz_i cy 21)] H := hP
  have hD : va_D A [(h0, .inr (4, [.ref q1, .null])), (q1, kz_i cy 21), (q2, kz_i cy 21)] := hD
  refine W.widen (k := 2) (n := 42) (Nat.le_of_ble_eq_true rfl) (Nat.le_of_ble_eq_true rfl) ?_
  refine va_putF (D := D) (ci := 4) (v := .ref q2) (ty := .array .int) (C := RX4) (T := TX4) (N := 2) hx hb hts in_X4_init_X4 tyX4 tyX4_ok nmX4 hown hK hP hD hS 0 rfl rfl 1 (by decide) (hts _ (List.mem_of_getElem? (i := 6) rfl)) (fun _ h9 => h9) rfl hin rfl (by decide +kernel) rfl rfl (Nat.le_of_ble_eq_true rfl) dX4_init_17 (fun H locs hP hD hS => ?_)
  have hP : va_P D hh_cl [(h0, .inr (4, [.ref q1, .ref q2])), (q1, kz_i cy 21), (q2, kz_i cy 21)] H := hP
  have hD : va_D A [(h0, .inr (4, [.ref q1, .ref q2])), (q1, kz_i cy 21), (q2, kz_i cy 21)] := hD
  exact W.vret hx hb hr (fun t ht hW => ⟨⟨((fun k => [q1, q2].getD k 0, fun k => ([] : List (Nat → Nat)).getD k (fun _ => 0)) : (Nat → Nat) × (Nat → Nat → Nat)), rfl, trivial, (by rw [ht]; exact hP : va_P D hh_cl (kl_X4 cy h0 (fun k => [q1, q2].getD k 0, fun k => ([] : List (Nat → Nat)).getD k (fun _ => 0))) t.heap), hD⟩, hS.F ht⟩) hS.2.2 dX4_init_20
def kl_X3 (cy : Nat → ClassId) (h0 : Nat) (u : (Nat → Nat) × (Nat → Nat → Nat)) : va_W := [(h0, .inr (3, [.int 0, .long 0, .long (1 : Int64), .ref (u.1 0)])), ((u.1 0), kz_l cy 25)]
theorem in_X3_init_X3 : ∀ w ∈ u_ws RX3 TX3 4, w ∈ wsX3_init := fun w h => List.mem_cons_of_mem _ (List.mem_append_right _ h)
abbrev rm_X3_init : Room := { frames := 1, cells := 1, slots := 25, locals := 12 }
set_option maxHeartbeats 4000000 in
set_option maxRecDepth 100000 in
theorem ci_X3 {D : va_G} {cy : Nat → ClassId} (l : Launch) (h0 sz : Nat) : Met l yX3_init wsX3_init rm_X3_init (va_Pc [.ref h0] (ki_B D cy [(h0, .inr (3, [.int 0, .long 0, .long 0, .null]))] sz)) (va_Qv (fun _ => True) (ki_E D (va_A [(h0, .inr (3, [.int 0, .long 0, .long 0, .null]))] sz) (kl_X3 cy h0)) (va_A [(h0, .inr (3, [.int 0, .long 0, .long 0, .null]))] sz)) 1 25 (va_A [(h0, .inr (3, [.int 0, .long 0, .long 0, .null]))] sz) := by
  refine Met.ofW (cc := cX3_init) (maxL := 1) (ret := none) (by decide) rfl ?_
  intro p e s m args below meth c s₁ B hml hv
  obtain ⟨rfl, hsz, hP, hK, hD0, hAO, hZ⟩ := hv
  have hx := B.exec
  have hb := B.bytes
  have hr := B.returns
  have hts := atoms_spec (ws := wsX3_init) B.pre
  have hown : s.vm.findClass RX3 = some m.cls := findClass_of_methodNamed B.named
  have hlocks := B.notSynchronized
  have hin : meth.name = "<init>" := (name_of_methodNamed B.named B.method).1
  subst hsz
  have hD := hD0.self (sz := s.heap.size)
  generalize hAe : va_A [(h0, .inr (3, [.int 0, .long 0, .long 0, .null]))] s.heap.size = A at hD hZ ⊢
  have hA : ∀ q : Nat, s.heap.size ≤ q → A q := fun q h => by rw [← hAe]; exact Or.inr h
  have hS : va_S A s.heap s.heap [] := va_S.rf
  have hP : va_P D hh_cl [(h0, .inr (3, [.int 0, .long 0, .long 0, .null]))] s.heap := hP
  refine hh_entry (vs := [.ref h0]) (Nat.le_of_ble_eq_true rfl) (fun ls hl => ?_)
  have hl : lv_has ls 1 [(0, .ref h0)] := hl
  refine lv_aload_n hx hb dX3_init_0 rfl (lv_at hl 0 rfl) ?_
  refine W.objInit hx hb hown (hts _ (List.mem_of_getElem? (i := 1) rfl)) (hts _ (List.mem_of_getElem? (i := 2) rfl)) (hts _ (List.mem_of_getElem? (i := 3) rfl)) rfl (by rw [hml]; exact hl.1) rfl dX3_init_1 (Nat.le_of_ble_eq_true rfl) (Nat.le_of_ble_eq_true rfl) ?_
  refine W.eq (g2 := F0 m 4 ls []) rfl ?_
  refine lv_aload_n hx hb dX3_init_4 rfl (lv_at hl 0 rfl) ?_
  refine lv_lconst (v := (1 : Int64)) hx hb dX3_init_5 (by decide) ?_
  refine va_put (D := D) (ci := 3) (v := .long (1 : Int64)) (ty := .long) (C := RX3) (T := TX3) (N := 4) hx hb hts in_X3_init_X3 tyX3 tyX3_ok nmX3 hown hK hP hD hS 0 rfl rfl 2 (by decide) (hts _ (List.mem_of_getElem? (i := 4) rfl)) (fun _ h9 => h9) rfl (by decide +kernel) rfl rfl (Nat.le_of_ble_eq_true rfl) dX3_init_6 (fun H locs hP hD hS => ?_)
  have hP : va_P D hh_cl [(h0, .inr (3, [.int 0, .long 0, .long (1 : Int64), .null]))] H := hP
  have hD : va_D A [(h0, .inr (3, [.int 0, .long 0, .long (1 : Int64), .null]))] := hD
  refine lv_aload_n hx hb dX3_init_9 rfl (lv_at hl 0 rfl) ?_
  refine lv_bipush (v := (25 : Int32)) hx hb dX3_init_10 (by decide) ?_
  refine kz_newl (n := (25 : Int32)) (N' := 25) hx hb (hts _ (List.mem_of_getElem? (i := 5) rfl)) hK hP hD hS hA (by decide) (by decide) (by decide) (Nat.le_of_ble_eq_true rfl) (Nat.le_of_ble_eq_true rfl) dX3_init_12 (fun q1 H hP hD hS => ?_)
  have hP : va_P D hh_cl [(h0, .inr (3, [.int 0, .long 0, .long (1 : Int64), .null])), (q1, kz_l cy 25)] H := hP
  have hD : va_D A [(h0, .inr (3, [.int 0, .long 0, .long (1 : Int64), .null])), (q1, kz_l cy 25)] := hD
  refine W.widen (k := 1) (n := 25) (Nat.le_of_ble_eq_true rfl) (Nat.le_of_ble_eq_true rfl) ?_
  refine va_putF (D := D) (ci := 3) (v := .ref q1) (ty := .array .long) (C := RX3) (T := TX3) (N := 4) hx hb hts in_X3_init_X3 tyX3 tyX3_ok nmX3 hown hK hP hD hS 0 rfl rfl 3 (by decide) (hts _ (List.mem_of_getElem? (i := 6) rfl)) (fun _ h9 => h9) rfl hin rfl (by decide +kernel) rfl rfl (Nat.le_of_ble_eq_true rfl) dX3_init_14 (fun H locs hP hD hS => ?_)
  have hP : va_P D hh_cl [(h0, .inr (3, [.int 0, .long 0, .long (1 : Int64), .ref q1])), (q1, kz_l cy 25)] H := hP
  have hD : va_D A [(h0, .inr (3, [.int 0, .long 0, .long (1 : Int64), .ref q1])), (q1, kz_l cy 25)] := hD
  exact W.vret hx hb hr (fun t ht hW => ⟨⟨((fun k => [q1].getD k 0, fun k => ([] : List (Nat → Nat)).getD k (fun _ => 0)) : (Nat → Nat) × (Nat → Nat → Nat)), rfl, trivial, (by rw [ht]; exact hP : va_P D hh_cl (kl_X3 cy h0 (fun k => [q1].getD k 0, fun k => ([] : List (Nat → Nat)).getD k (fun _ => 0))) t.heap), hD⟩, hS.F ht⟩) hS.2.2 dX3_init_17
def kl_X0 (cy : Nat → ClassId) (h0 : Nat) (u : (Nat → Nat) × (Nat → Nat → Nat)) : va_W := [(h0, .inr (0, [.int 0, .ref (u.1 0), .ref (u.1 1), .ref (u.1 2)])), ((u.1 0), kz_b cy 10), ((u.1 1), kz_i cy 10), ((u.1 2), kz_q cy 10 (u.2 0)), ((u.2 0 0), kz_i cy 24), ((u.2 0 1), kz_i cy 24), ((u.2 0 2), kz_i cy 24), ((u.2 0 3), kz_i cy 24), ((u.2 0 4), kz_i cy 24), ((u.2 0 5), kz_i cy 24), ((u.2 0 6), kz_i cy 24), ((u.2 0 7), kz_i cy 24), ((u.2 0 8), kz_i cy 24), ((u.2 0 9), kz_i cy 24)]
theorem in_X0_init_X0 : ∀ w ∈ u_ws RX0 TX0 4, w ∈ wsX0_init := fun w h => List.mem_cons_of_mem _ (List.mem_append_right _ h)
abbrev rm_X0_init : Room := { frames := 1, cells := 13, slots := 270, locals := 12 }
set_option maxHeartbeats 4000000 in
set_option maxRecDepth 100000 in
theorem ci_X0 {D : va_G} {cy : Nat → ClassId} (l : Launch) (h0 sz : Nat) : Met l yX0_init wsX0_init rm_X0_init (va_Pc [.ref h0] (ki_B D cy [(h0, .inr (0, [.int 0, .null, .null, .null]))] sz)) (va_Qv (fun _ => True) (ki_E D (va_A [(h0, .inr (0, [.int 0, .null, .null, .null]))] sz) (kl_X0 cy h0)) (va_A [(h0, .inr (0, [.int 0, .null, .null, .null]))] sz)) 13 270 (va_A [(h0, .inr (0, [.int 0, .null, .null, .null]))] sz) := by
  refine Met.ofW (cc := cX0_init) (maxL := 1) (ret := none) (by decide) rfl ?_
  intro p e s m args below meth c s₁ B hml hv
  obtain ⟨rfl, hsz, hP, hK, hD0, hAO, hZ⟩ := hv
  have hx := B.exec
  have hb := B.bytes
  have hr := B.returns
  have hts := atoms_spec (ws := wsX0_init) B.pre
  have hown : s.vm.findClass RX0 = some m.cls := findClass_of_methodNamed B.named
  have hlocks := B.notSynchronized
  have hin : meth.name = "<init>" := (name_of_methodNamed B.named B.method).1
  subst hsz
  have hD := hD0.self (sz := s.heap.size)
  generalize hAe : va_A [(h0, .inr (0, [.int 0, .null, .null, .null]))] s.heap.size = A at hD hZ ⊢
  have hA : ∀ q : Nat, s.heap.size ≤ q → A q := fun q h => by rw [← hAe]; exact Or.inr h
  have hS : va_S A s.heap s.heap [] := va_S.rf
  have hP : va_P D hh_cl [(h0, .inr (0, [.int 0, .null, .null, .null]))] s.heap := hP
  refine hh_entry (vs := [.ref h0]) (Nat.le_of_ble_eq_true rfl) (fun ls hl => ?_)
  have hl : lv_has ls 1 [(0, .ref h0)] := hl
  refine lv_aload_n hx hb dX0_init_0 rfl (lv_at hl 0 rfl) ?_
  refine W.objInit hx hb hown (hts _ (List.mem_of_getElem? (i := 1) rfl)) (hts _ (List.mem_of_getElem? (i := 2) rfl)) (hts _ (List.mem_of_getElem? (i := 3) rfl)) rfl (by rw [hml]; exact hl.1) rfl dX0_init_1 (Nat.le_of_ble_eq_true rfl) (Nat.le_of_ble_eq_true rfl) ?_
  refine W.eq (g2 := F0 m 4 ls []) rfl ?_
  refine lv_aload_n hx hb dX0_init_4 rfl (lv_at hl 0 rfl) ?_
  refine lv_bipush (v := (10 : Int32)) hx hb dX0_init_5 (by decide) ?_
  refine kz_newb (n := (10 : Int32)) (N' := 10) hx hb (hts _ (List.mem_of_getElem? (i := 4) rfl)) hK hP hD hS hA (by decide) (by decide) (by decide) (Nat.le_of_ble_eq_true rfl) (Nat.le_of_ble_eq_true rfl) dX0_init_7 (fun q1 H hP hD hS => ?_)
  have hP : va_P D hh_cl [(h0, .inr (0, [.int 0, .null, .null, .null])), (q1, kz_b cy 10)] H := hP
  have hD : va_D A [(h0, .inr (0, [.int 0, .null, .null, .null])), (q1, kz_b cy 10)] := hD
  refine W.widen (k := 1) (n := 10) (Nat.le_of_ble_eq_true rfl) (Nat.le_of_ble_eq_true rfl) ?_
  refine va_putF (D := D) (ci := 0) (v := .ref q1) (ty := .array .boolean) (C := RX0) (T := TX0) (N := 4) hx hb hts in_X0_init_X0 tyX0 tyX0_ok nmX0 hown hK hP hD hS 0 rfl rfl 1 (by decide) (hts _ (List.mem_of_getElem? (i := 5) rfl)) (fun _ h9 => h9) rfl hin rfl (by decide +kernel) rfl rfl (Nat.le_of_ble_eq_true rfl) dX0_init_9 (fun H locs hP hD hS => ?_)
  have hP : va_P D hh_cl [(h0, .inr (0, [.int 0, .ref q1, .null, .null])), (q1, kz_b cy 10)] H := hP
  have hD : va_D A [(h0, .inr (0, [.int 0, .ref q1, .null, .null])), (q1, kz_b cy 10)] := hD
  refine lv_aload_n hx hb dX0_init_12 rfl (lv_at hl 0 rfl) ?_
  refine lv_bipush (v := (10 : Int32)) hx hb dX0_init_13 (by decide) ?_
  refine kz_newi (n := (10 : Int32)) (N' := 10) hx hb (hts _ (List.mem_of_getElem? (i := 6) rfl)) hK hP hD hS hA (by decide) (by decide) (by decide) (Nat.le_of_ble_eq_true rfl) (Nat.le_of_ble_eq_true rfl) dX0_init_15 (fun q2 H hP hD hS => ?_)
  have hP : va_P D hh_cl [(h0, .inr (0, [.int 0, .ref q1, .null, .null])), (q1, kz_b cy 10), (q2, kz_i cy 10)] H := hP
  have hD : va_D A [(h0, .inr (0, [.int 0, .ref q1, .null, .null])), (q1, kz_b cy 10), (q2, kz_i cy 10)] := hD
  refine W.widen (k := 2) (n := 20) (Nat.le_of_ble_eq_true rfl) (Nat.le_of_ble_eq_true rfl) ?_
  refine va_putF (D := D) (ci := 0) (v := .ref q2) (ty := .array .int) (C := RX0) (T := TX0) (N := 4) hx hb hts in_X0_init_X0 tyX0 tyX0_ok nmX0 hown hK hP hD hS 0 rfl rfl 2 (by decide) (hts _ (List.mem_of_getElem? (i := 7) rfl)) (fun _ h9 => h9) rfl hin rfl (by decide +kernel) rfl rfl (Nat.le_of_ble_eq_true rfl) dX0_init_17 (fun H locs hP hD hS => ?_)
  have hP : va_P D hh_cl [(h0, .inr (0, [.int 0, .ref q1, .ref q2, .null])), (q1, kz_b cy 10), (q2, kz_i cy 10)] H := hP
  have hD : va_D A [(h0, .inr (0, [.int 0, .ref q1, .ref q2, .null])), (q1, kz_b cy 10), (q2, kz_i cy 10)] := hD
  refine lv_aload_n hx hb dX0_init_20 rfl (lv_at hl 0 rfl) ?_
  refine lv_bipush (v := (10 : Int32)) hx hb dX0_init_21 (by decide) ?_
  refine lv_bipush (v := (24 : Int32)) hx hb dX0_init_23 (by decide) ?_
  refine kz_mna (n := (10 : Int32)) (k := (24 : Int32)) (N' := 10) (K' := 24) hx hb hown (hts _ (List.mem_of_getElem? (i := 8) rfl)) hAO (hts _ (List.mem_of_getElem? (i := 6) rfl)) hK hP hD hS hA (by decide) (by decide) (by decide) (by decide) (by decide) (by decide) (by decide) (Nat.le_of_ble_eq_true rfl) (Nat.le_of_ble_eq_true rfl) dX0_init_25 (fun q3 r4 H hP hD hS => ?_)
  have hP : va_P D hh_cl [(h0, .inr (0, [.int 0, .ref q1, .ref q2, .null])), (q1, kz_b cy 10), (q2, kz_i cy 10), (q3, kz_q cy 10 r4), ((r4 0), kz_i cy 24), ((r4 1), kz_i cy 24), ((r4 2), kz_i cy 24), ((r4 3), kz_i cy 24), ((r4 4), kz_i cy 24), ((r4 5), kz_i cy 24), ((r4 6), kz_i cy 24), ((r4 7), kz_i cy 24), ((r4 8), kz_i cy 24), ((r4 9), kz_i cy 24)] H := hP
  have hD : va_D A [(h0, .inr (0, [.int 0, .ref q1, .ref q2, .null])), (q1, kz_b cy 10), (q2, kz_i cy 10), (q3, kz_q cy 10 r4), ((r4 0), kz_i cy 24), ((r4 1), kz_i cy 24), ((r4 2), kz_i cy 24), ((r4 3), kz_i cy 24), ((r4 4), kz_i cy 24), ((r4 5), kz_i cy 24), ((r4 6), kz_i cy 24), ((r4 7), kz_i cy 24), ((r4 8), kz_i cy 24), ((r4 9), kz_i cy 24)] := hD
  refine W.widen (k := 13) (n := 270) (Nat.le_of_ble_eq_true rfl) (Nat.le_of_ble_eq_true rfl) ?_
  refine va_putF (D := D) (ci := 0) (v := .ref q3) (ty := .array (.array .int)) (C := RX0) (T := TX0) (N := 4) hx hb hts in_X0_init_X0 tyX0 tyX0_ok nmX0 hown hK hP hD hS 0 rfl rfl 3 (by decide) (hts _ (List.mem_of_getElem? (i := 9) rfl)) (fun _ h9 => h9) rfl hin rfl (by decide +kernel) rfl rfl (Nat.le_of_ble_eq_true rfl) dX0_init_29 (fun H locs hP hD hS => ?_)
  have hP : va_P D hh_cl [(h0, .inr (0, [.int 0, .ref q1, .ref q2, .ref q3])), (q1, kz_b cy 10), (q2, kz_i cy 10), (q3, kz_q cy 10 r4), ((r4 0), kz_i cy 24), ((r4 1), kz_i cy 24), ((r4 2), kz_i cy 24), ((r4 3), kz_i cy 24), ((r4 4), kz_i cy 24), ((r4 5), kz_i cy 24), ((r4 6), kz_i cy 24), ((r4 7), kz_i cy 24), ((r4 8), kz_i cy 24), ((r4 9), kz_i cy 24)] H := hP
  have hD : va_D A [(h0, .inr (0, [.int 0, .ref q1, .ref q2, .ref q3])), (q1, kz_b cy 10), (q2, kz_i cy 10), (q3, kz_q cy 10 r4), ((r4 0), kz_i cy 24), ((r4 1), kz_i cy 24), ((r4 2), kz_i cy 24), ((r4 3), kz_i cy 24), ((r4 4), kz_i cy 24), ((r4 5), kz_i cy 24), ((r4 6), kz_i cy 24), ((r4 7), kz_i cy 24), ((r4 8), kz_i cy 24), ((r4 9), kz_i cy 24)] := hD
  exact W.vret hx hb hr (fun t ht hW => ⟨⟨((fun k => [q1, q2, q3].getD k 0, fun k => [r4].getD k (fun _ => 0)) : (Nat → Nat) × (Nat → Nat → Nat)), rfl, trivial, (by rw [ht]; exact hP : va_P D hh_cl (kl_X0 cy h0 (fun k => [q1, q2, q3].getD k 0, fun k => [r4].getD k (fun _ => 0))) t.heap), hD⟩, hS.F ht⟩) hS.2.2 dX0_init_32
def kl_X2 (cy : Nat → ClassId) (h0 a1 a2 a3 : Nat) (u : (Nat → Nat) × (Nat → Nat → Nat)) : va_W := [(h0, .inr (2, [.ref (u.1 0), .ref (u.1 1), .ref a1, .ref a2, .ref a3, .ref (u.1 2), .ref (u.1 3), .ref (u.1 4), .ref (u.1 5)])), ((u.1 0), kz_q cy 24 (u.2 0)), ((u.2 0 0), kz_i cy 4), ((u.2 0 1), kz_i cy 4), ((u.2 0 2), kz_i cy 4), ((u.2 0 3), kz_i cy 4), ((u.2 0 4), kz_i cy 4), ((u.2 0 5), kz_i cy 4), ((u.2 0 6), kz_i cy 4), ((u.2 0 7), kz_i cy 4), ((u.2 0 8), kz_i cy 4), ((u.2 0 9), kz_i cy 4), ((u.2 0 10), kz_i cy 4), ((u.2 0 11), kz_i cy 4), ((u.2 0 12), kz_i cy 4), ((u.2 0 13), kz_i cy 4), ((u.2 0 14), kz_i cy 4), ((u.2 0 15), kz_i cy 4), ((u.2 0 16), kz_i cy 4), ((u.2 0 17), kz_i cy 4), ((u.2 0 18), kz_i cy 4), ((u.2 0 19), kz_i cy 4), ((u.2 0 20), kz_i cy 4), ((u.2 0 21), kz_i cy 4), ((u.2 0 22), kz_i cy 4), ((u.2 0 23), kz_i cy 4), ((u.1 1), kz_q cy 10 (u.2 1)), ((u.2 1 0), kz_i cy 48), ((u.2 1 1), kz_i cy 48), ((u.2 1 2), kz_i cy 48), ((u.2 1 3), kz_i cy 48), ((u.2 1 4), kz_i cy 48), ((u.2 1 5), kz_i cy 48), ((u.2 1 6), kz_i cy 48), ((u.2 1 7), kz_i cy 48), ((u.2 1 8), kz_i cy 48), ((u.2 1 9), kz_i cy 48), ((u.1 2), kz_l cy 48), ((u.1 3), kz_l cy 4), ((u.1 4), kz_l cy 4), ((u.1 5), kz_i cy 24)]
theorem in_X2_init_X2 : ∀ w ∈ u_ws RX2 TX2 9, w ∈ wsX2_init := fun w h => List.mem_cons_of_mem _ (List.mem_append_right _ h)
abbrev rm_X2_init : Room := { frames := 1, cells := 40, slots := 690, locals := 12 }
set_option maxHeartbeats 4000000 in
set_option maxRecDepth 100000 in
theorem ci_X2 {D : va_G} {cy : Nat → ClassId} (l : Launch) (h0 sz : Nat) (a1 a2 a3 : Nat) : Met l yX2_init wsX2_init rm_X2_init (va_Pc [.ref h0, .ref a1, .ref a2, .ref a3] (ki_B D cy [(h0, .inr (2, [.null, .null, .null, .null, .null, .null, .null, .null, .null]))] sz)) (va_Qv (fun _ => True) (ki_E D (va_A [(h0, .inr (2, [.null, .null, .null, .null, .null, .null, .null, .null, .null]))] sz) (kl_X2 cy h0 a1 a2 a3)) (va_A [(h0, .inr (2, [.null, .null, .null, .null, .null, .null, .null, .null, .null]))] sz)) 40 690 (va_A [(h0, .inr (2, [.null, .null, .null, .null, .null, .null, .null, .null, .null]))] sz) := by
  refine Met.ofW (cc := cX2_init) (maxL := 4) (ret := none) (by decide) rfl ?_
  intro p e s m args below meth c s₁ B hml hv
  obtain ⟨rfl, hsz, hP, hK, hD0, hAO, hZ⟩ := hv
  have hx := B.exec
  have hb := B.bytes
  have hr := B.returns
  have hts := atoms_spec (ws := wsX2_init) B.pre
  have hown : s.vm.findClass RX2 = some m.cls := findClass_of_methodNamed B.named
  have hlocks := B.notSynchronized
  have hin : meth.name = "<init>" := (name_of_methodNamed B.named B.method).1
  subst hsz
  have hD := hD0.self (sz := s.heap.size)
  generalize hAe : va_A [(h0, .inr (2, [.null, .null, .null, .null, .null, .null, .null, .null, .null]))] s.heap.size = A at hD hZ ⊢
  have hA : ∀ q : Nat, s.heap.size ≤ q → A q := fun q h => by rw [← hAe]; exact Or.inr h
  have hS : va_S A s.heap s.heap [] := va_S.rf
  have hP : va_P D hh_cl [(h0, .inr (2, [.null, .null, .null, .null, .null, .null, .null, .null, .null]))] s.heap := hP
  refine hh_entry (vs := [.ref h0, .ref a1, .ref a2, .ref a3]) (Nat.le_of_ble_eq_true rfl) (fun ls hl => ?_)
  have hl : lv_has ls 4 [(0, .ref h0), (1, .ref a1), (2, .ref a2), (3, .ref a3)] := hl
  refine lv_aload_n hx hb dX2_init_0 rfl (lv_at hl 0 rfl) ?_
  refine W.objInit hx hb hown (hts _ (List.mem_of_getElem? (i := 1) rfl)) (hts _ (List.mem_of_getElem? (i := 2) rfl)) (hts _ (List.mem_of_getElem? (i := 3) rfl)) rfl (by rw [hml]; exact hl.1) rfl dX2_init_1 (Nat.le_of_ble_eq_true rfl) (Nat.le_of_ble_eq_true rfl) ?_
  refine W.eq (g2 := F0 m 4 ls []) rfl ?_
  refine lv_aload_n hx hb dX2_init_4 rfl (lv_at hl 0 rfl) ?_
  refine lv_aload_n hx hb dX2_init_5 rfl (lv_at hl 1 rfl) ?_
  refine va_putF (D := D) (ci := 2) (v := .ref a1) (ty := .object "HandsHall$Items") (C := RX2) (T := TX2) (N := 9) hx hb hts in_X2_init_X2 tyX2 tyX2_ok nmX2 hown hK hP hD hS 0 rfl rfl 2 (by decide) (hts _ (List.mem_of_getElem? (i := 4) rfl)) (fun _ h9 => h9) rfl hin rfl (by decide +kernel) rfl rfl (Nat.le_of_ble_eq_true rfl) dX2_init_6 (fun H locs hP hD hS => ?_)
  have hP : va_P D hh_cl [(h0, .inr (2, [.null, .null, .ref a1, .null, .null, .null, .null, .null, .null]))] H := hP
  have hD : va_D A [(h0, .inr (2, [.null, .null, .ref a1, .null, .null, .null, .null, .null, .null]))] := hD
  refine lv_aload_n hx hb dX2_init_9 rfl (lv_at hl 0 rfl) ?_
  refine lv_aload_n hx hb dX2_init_10 rfl (lv_at hl 2 rfl) ?_
  refine va_putF (D := D) (ci := 2) (v := .ref a2) (ty := .object "HandsHall$Hands") (C := RX2) (T := TX2) (N := 9) hx hb hts in_X2_init_X2 tyX2 tyX2_ok nmX2 hown hK hP hD hS 0 rfl rfl 3 (by decide) (hts _ (List.mem_of_getElem? (i := 5) rfl)) (fun _ h9 => h9) rfl hin rfl (by decide +kernel) rfl rfl (Nat.le_of_ble_eq_true rfl) dX2_init_11 (fun H locs hP hD hS => ?_)
  have hP : va_P D hh_cl [(h0, .inr (2, [.null, .null, .ref a1, .ref a2, .null, .null, .null, .null, .null]))] H := hP
  have hD : va_D A [(h0, .inr (2, [.null, .null, .ref a1, .ref a2, .null, .null, .null, .null, .null]))] := hD
  refine lv_aload_n hx hb dX2_init_14 rfl (lv_at hl 0 rfl) ?_
  refine lv_aload_n hx hb dX2_init_15 rfl (lv_at hl 3 rfl) ?_
  refine va_putF (D := D) (ci := 2) (v := .ref a3) (ty := .object "HandsHall$Rules") (C := RX2) (T := TX2) (N := 9) hx hb hts in_X2_init_X2 tyX2 tyX2_ok nmX2 hown hK hP hD hS 0 rfl rfl 4 (by decide) (hts _ (List.mem_of_getElem? (i := 6) rfl)) (fun _ h9 => h9) rfl hin rfl (by decide +kernel) rfl rfl (Nat.le_of_ble_eq_true rfl) dX2_init_16 (fun H locs hP hD hS => ?_)
  have hP : va_P D hh_cl [(h0, .inr (2, [.null, .null, .ref a1, .ref a2, .ref a3, .null, .null, .null, .null]))] H := hP
  have hD : va_D A [(h0, .inr (2, [.null, .null, .ref a1, .ref a2, .ref a3, .null, .null, .null, .null]))] := hD
  refine lv_aload_n hx hb dX2_init_19 rfl (lv_at hl 0 rfl) ?_
  refine lv_bipush (v := (24 : Int32)) hx hb dX2_init_20 (by decide) ?_
  refine lv_iconst (v := (4 : Int32)) hx hb dX2_init_22 (by decide) ?_
  refine kz_mna (n := (24 : Int32)) (k := (4 : Int32)) (N' := 24) (K' := 4) hx hb hown (hts _ (List.mem_of_getElem? (i := 7) rfl)) hAO (hts _ (List.mem_of_getElem? (i := 8) rfl)) hK hP hD hS hA (by decide) (by decide) (by decide) (by decide) (by decide) (by decide) (by decide) (Nat.le_of_ble_eq_true rfl) (Nat.le_of_ble_eq_true rfl) dX2_init_23 (fun q1 r2 H hP hD hS => ?_)
  have hP : va_P D hh_cl [(h0, .inr (2, [.null, .null, .ref a1, .ref a2, .ref a3, .null, .null, .null, .null])), (q1, kz_q cy 24 r2), ((r2 0), kz_i cy 4), ((r2 1), kz_i cy 4), ((r2 2), kz_i cy 4), ((r2 3), kz_i cy 4), ((r2 4), kz_i cy 4), ((r2 5), kz_i cy 4), ((r2 6), kz_i cy 4), ((r2 7), kz_i cy 4), ((r2 8), kz_i cy 4), ((r2 9), kz_i cy 4), ((r2 10), kz_i cy 4), ((r2 11), kz_i cy 4), ((r2 12), kz_i cy 4), ((r2 13), kz_i cy 4), ((r2 14), kz_i cy 4), ((r2 15), kz_i cy 4), ((r2 16), kz_i cy 4), ((r2 17), kz_i cy 4), ((r2 18), kz_i cy 4), ((r2 19), kz_i cy 4), ((r2 20), kz_i cy 4), ((r2 21), kz_i cy 4), ((r2 22), kz_i cy 4), ((r2 23), kz_i cy 4)] H := hP
  have hD : va_D A [(h0, .inr (2, [.null, .null, .ref a1, .ref a2, .ref a3, .null, .null, .null, .null])), (q1, kz_q cy 24 r2), ((r2 0), kz_i cy 4), ((r2 1), kz_i cy 4), ((r2 2), kz_i cy 4), ((r2 3), kz_i cy 4), ((r2 4), kz_i cy 4), ((r2 5), kz_i cy 4), ((r2 6), kz_i cy 4), ((r2 7), kz_i cy 4), ((r2 8), kz_i cy 4), ((r2 9), kz_i cy 4), ((r2 10), kz_i cy 4), ((r2 11), kz_i cy 4), ((r2 12), kz_i cy 4), ((r2 13), kz_i cy 4), ((r2 14), kz_i cy 4), ((r2 15), kz_i cy 4), ((r2 16), kz_i cy 4), ((r2 17), kz_i cy 4), ((r2 18), kz_i cy 4), ((r2 19), kz_i cy 4), ((r2 20), kz_i cy 4), ((r2 21), kz_i cy 4), ((r2 22), kz_i cy 4), ((r2 23), kz_i cy 4)] := hD
  refine W.widen (k := 25) (n := 120) (Nat.le_of_ble_eq_true rfl) (Nat.le_of_ble_eq_true rfl) ?_
  refine va_putF (D := D) (ci := 2) (v := .ref q1) (ty := .array (.array .int)) (C := RX2) (T := TX2) (N := 9) hx hb hts in_X2_init_X2 tyX2 tyX2_ok nmX2 hown hK hP hD hS 0 rfl rfl 0 (by decide) (hts _ (List.mem_of_getElem? (i := 9) rfl)) (fun _ h9 => h9) rfl hin rfl (by decide +kernel) rfl rfl (Nat.le_of_ble_eq_true rfl) dX2_init_27 (fun H locs hP hD hS => ?_)
  have hP : va_P D hh_cl [(h0, .inr (2, [.ref q1, .null, .ref a1, .ref a2, .ref a3, .null, .null, .null, .null])), (q1, kz_q cy 24 r2), ((r2 0), kz_i cy 4), ((r2 1), kz_i cy 4), ((r2 2), kz_i cy 4), ((r2 3), kz_i cy 4), ((r2 4), kz_i cy 4), ((r2 5), kz_i cy 4), ((r2 6), kz_i cy 4), ((r2 7), kz_i cy 4), ((r2 8), kz_i cy 4), ((r2 9), kz_i cy 4), ((r2 10), kz_i cy 4), ((r2 11), kz_i cy 4), ((r2 12), kz_i cy 4), ((r2 13), kz_i cy 4), ((r2 14), kz_i cy 4), ((r2 15), kz_i cy 4), ((r2 16), kz_i cy 4), ((r2 17), kz_i cy 4), ((r2 18), kz_i cy 4), ((r2 19), kz_i cy 4), ((r2 20), kz_i cy 4), ((r2 21), kz_i cy 4), ((r2 22), kz_i cy 4), ((r2 23), kz_i cy 4)] H := hP
  have hD : va_D A [(h0, .inr (2, [.ref q1, .null, .ref a1, .ref a2, .ref a3, .null, .null, .null, .null])), (q1, kz_q cy 24 r2), ((r2 0), kz_i cy 4), ((r2 1), kz_i cy 4), ((r2 2), kz_i cy 4), ((r2 3), kz_i cy 4), ((r2 4), kz_i cy 4), ((r2 5), kz_i cy 4), ((r2 6), kz_i cy 4), ((r2 7), kz_i cy 4), ((r2 8), kz_i cy 4), ((r2 9), kz_i cy 4), ((r2 10), kz_i cy 4), ((r2 11), kz_i cy 4), ((r2 12), kz_i cy 4), ((r2 13), kz_i cy 4), ((r2 14), kz_i cy 4), ((r2 15), kz_i cy 4), ((r2 16), kz_i cy 4), ((r2 17), kz_i cy 4), ((r2 18), kz_i cy 4), ((r2 19), kz_i cy 4), ((r2 20), kz_i cy 4), ((r2 21), kz_i cy 4), ((r2 22), kz_i cy 4), ((r2 23), kz_i cy 4)] := hD
  refine lv_aload_n hx hb dX2_init_30 rfl (lv_at hl 0 rfl) ?_
  refine lv_bipush (v := (10 : Int32)) hx hb dX2_init_31 (by decide) ?_
  refine lv_bipush (v := (48 : Int32)) hx hb dX2_init_33 (by decide) ?_
  refine kz_mna (n := (10 : Int32)) (k := (48 : Int32)) (N' := 10) (K' := 48) hx hb hown (hts _ (List.mem_of_getElem? (i := 7) rfl)) hAO (hts _ (List.mem_of_getElem? (i := 8) rfl)) hK hP hD hS hA (by decide) (by decide) (by decide) (by decide) (by decide) (by decide) (by decide) (Nat.le_of_ble_eq_true rfl) (Nat.le_of_ble_eq_true rfl) dX2_init_35 (fun q3 r4 H hP hD hS => ?_)
  have hP : va_P D hh_cl [(h0, .inr (2, [.ref q1, .null, .ref a1, .ref a2, .ref a3, .null, .null, .null, .null])), (q1, kz_q cy 24 r2), ((r2 0), kz_i cy 4), ((r2 1), kz_i cy 4), ((r2 2), kz_i cy 4), ((r2 3), kz_i cy 4), ((r2 4), kz_i cy 4), ((r2 5), kz_i cy 4), ((r2 6), kz_i cy 4), ((r2 7), kz_i cy 4), ((r2 8), kz_i cy 4), ((r2 9), kz_i cy 4), ((r2 10), kz_i cy 4), ((r2 11), kz_i cy 4), ((r2 12), kz_i cy 4), ((r2 13), kz_i cy 4), ((r2 14), kz_i cy 4), ((r2 15), kz_i cy 4), ((r2 16), kz_i cy 4), ((r2 17), kz_i cy 4), ((r2 18), kz_i cy 4), ((r2 19), kz_i cy 4), ((r2 20), kz_i cy 4), ((r2 21), kz_i cy 4), ((r2 22), kz_i cy 4), ((r2 23), kz_i cy 4), (q3, kz_q cy 10 r4), ((r4 0), kz_i cy 48), ((r4 1), kz_i cy 48), ((r4 2), kz_i cy 48), ((r4 3), kz_i cy 48), ((r4 4), kz_i cy 48), ((r4 5), kz_i cy 48), ((r4 6), kz_i cy 48), ((r4 7), kz_i cy 48), ((r4 8), kz_i cy 48), ((r4 9), kz_i cy 48)] H := hP
  have hD : va_D A [(h0, .inr (2, [.ref q1, .null, .ref a1, .ref a2, .ref a3, .null, .null, .null, .null])), (q1, kz_q cy 24 r2), ((r2 0), kz_i cy 4), ((r2 1), kz_i cy 4), ((r2 2), kz_i cy 4), ((r2 3), kz_i cy 4), ((r2 4), kz_i cy 4), ((r2 5), kz_i cy 4), ((r2 6), kz_i cy 4), ((r2 7), kz_i cy 4), ((r2 8), kz_i cy 4), ((r2 9), kz_i cy 4), ((r2 10), kz_i cy 4), ((r2 11), kz_i cy 4), ((r2 12), kz_i cy 4), ((r2 13), kz_i cy 4), ((r2 14), kz_i cy 4), ((r2 15), kz_i cy 4), ((r2 16), kz_i cy 4), ((r2 17), kz_i cy 4), ((r2 18), kz_i cy 4), ((r2 19), kz_i cy 4), ((r2 20), kz_i cy 4), ((r2 21), kz_i cy 4), ((r2 22), kz_i cy 4), ((r2 23), kz_i cy 4), (q3, kz_q cy 10 r4), ((r4 0), kz_i cy 48), ((r4 1), kz_i cy 48), ((r4 2), kz_i cy 48), ((r4 3), kz_i cy 48), ((r4 4), kz_i cy 48), ((r4 5), kz_i cy 48), ((r4 6), kz_i cy 48), ((r4 7), kz_i cy 48), ((r4 8), kz_i cy 48), ((r4 9), kz_i cy 48)] := hD
  refine W.widen (k := 36) (n := 610) (Nat.le_of_ble_eq_true rfl) (Nat.le_of_ble_eq_true rfl) ?_
  refine va_putF (D := D) (ci := 2) (v := .ref q3) (ty := .array (.array .int)) (C := RX2) (T := TX2) (N := 9) hx hb hts in_X2_init_X2 tyX2 tyX2_ok nmX2 hown hK hP hD hS 0 rfl rfl 1 (by decide) (hts _ (List.mem_of_getElem? (i := 10) rfl)) (fun _ h9 => h9) rfl hin rfl (by decide +kernel) rfl rfl (Nat.le_of_ble_eq_true rfl) dX2_init_39 (fun H locs hP hD hS => ?_)
  have hP : va_P D hh_cl [(h0, .inr (2, [.ref q1, .ref q3, .ref a1, .ref a2, .ref a3, .null, .null, .null, .null])), (q1, kz_q cy 24 r2), ((r2 0), kz_i cy 4), ((r2 1), kz_i cy 4), ((r2 2), kz_i cy 4), ((r2 3), kz_i cy 4), ((r2 4), kz_i cy 4), ((r2 5), kz_i cy 4), ((r2 6), kz_i cy 4), ((r2 7), kz_i cy 4), ((r2 8), kz_i cy 4), ((r2 9), kz_i cy 4), ((r2 10), kz_i cy 4), ((r2 11), kz_i cy 4), ((r2 12), kz_i cy 4), ((r2 13), kz_i cy 4), ((r2 14), kz_i cy 4), ((r2 15), kz_i cy 4), ((r2 16), kz_i cy 4), ((r2 17), kz_i cy 4), ((r2 18), kz_i cy 4), ((r2 19), kz_i cy 4), ((r2 20), kz_i cy 4), ((r2 21), kz_i cy 4), ((r2 22), kz_i cy 4), ((r2 23), kz_i cy 4), (q3, kz_q cy 10 r4), ((r4 0), kz_i cy 48), ((r4 1), kz_i cy 48), ((r4 2), kz_i cy 48), ((r4 3), kz_i cy 48), ((r4 4), kz_i cy 48), ((r4 5), kz_i cy 48), ((r4 6), kz_i cy 48), ((r4 7), kz_i cy 48), ((r4 8), kz_i cy 48), ((r4 9), kz_i cy 48)] H := hP
  have hD : va_D A [(h0, .inr (2, [.ref q1, .ref q3, .ref a1, .ref a2, .ref a3, .null, .null, .null, .null])), (q1, kz_q cy 24 r2), ((r2 0), kz_i cy 4), ((r2 1), kz_i cy 4), ((r2 2), kz_i cy 4), ((r2 3), kz_i cy 4), ((r2 4), kz_i cy 4), ((r2 5), kz_i cy 4), ((r2 6), kz_i cy 4), ((r2 7), kz_i cy 4), ((r2 8), kz_i cy 4), ((r2 9), kz_i cy 4), ((r2 10), kz_i cy 4), ((r2 11), kz_i cy 4), ((r2 12), kz_i cy 4), ((r2 13), kz_i cy 4), ((r2 14), kz_i cy 4), ((r2 15), kz_i cy 4), ((r2 16), kz_i cy 4), ((r2 17), kz_i cy 4), ((r2 18), kz_i cy 4), ((r2 19), kz_i cy 4), ((r2 20), kz_i cy 4), ((r2 21), kz_i cy 4), ((r2 22), kz_i cy 4), ((r2 23), kz_i cy 4), (q3, kz_q cy 10 r4), ((r4 0), kz_i cy 48), ((r4 1), kz_i cy 48), ((r4 2), kz_i cy 48), ((r4 3), kz_i cy 48), ((r4 4), kz_i cy 48), ((r4 5), kz_i cy 48), ((r4 6), kz_i cy 48), ((r4 7), kz_i cy 48), ((r4 8), kz_i cy 48), ((r4 9), kz_i cy 48)] := hD
  refine lv_aload_n hx hb dX2_init_42 rfl (lv_at hl 0 rfl) ?_
  refine lv_bipush (v := (48 : Int32)) hx hb dX2_init_43 (by decide) ?_
  refine kz_newl (n := (48 : Int32)) (N' := 48) hx hb (hts _ (List.mem_of_getElem? (i := 11) rfl)) hK hP hD hS hA (by decide) (by decide) (by decide) (Nat.le_of_ble_eq_true rfl) (Nat.le_of_ble_eq_true rfl) dX2_init_45 (fun q5 H hP hD hS => ?_)
  have hP : va_P D hh_cl [(h0, .inr (2, [.ref q1, .ref q3, .ref a1, .ref a2, .ref a3, .null, .null, .null, .null])), (q1, kz_q cy 24 r2), ((r2 0), kz_i cy 4), ((r2 1), kz_i cy 4), ((r2 2), kz_i cy 4), ((r2 3), kz_i cy 4), ((r2 4), kz_i cy 4), ((r2 5), kz_i cy 4), ((r2 6), kz_i cy 4), ((r2 7), kz_i cy 4), ((r2 8), kz_i cy 4), ((r2 9), kz_i cy 4), ((r2 10), kz_i cy 4), ((r2 11), kz_i cy 4), ((r2 12), kz_i cy 4), ((r2 13), kz_i cy 4), ((r2 14), kz_i cy 4), ((r2 15), kz_i cy 4), ((r2 16), kz_i cy 4), ((r2 17), kz_i cy 4), ((r2 18), kz_i cy 4), ((r2 19), kz_i cy 4), ((r2 20), kz_i cy 4), ((r2 21), kz_i cy 4), ((r2 22), kz_i cy 4), ((r2 23), kz_i cy 4), (q3, kz_q cy 10 r4), ((r4 0), kz_i cy 48), ((r4 1), kz_i cy 48), ((r4 2), kz_i cy 48), ((r4 3), kz_i cy 48), ((r4 4), kz_i cy 48), ((r4 5), kz_i cy 48), ((r4 6), kz_i cy 48), ((r4 7), kz_i cy 48), ((r4 8), kz_i cy 48), ((r4 9), kz_i cy 48), (q5, kz_l cy 48)] H := hP
  have hD : va_D A [(h0, .inr (2, [.ref q1, .ref q3, .ref a1, .ref a2, .ref a3, .null, .null, .null, .null])), (q1, kz_q cy 24 r2), ((r2 0), kz_i cy 4), ((r2 1), kz_i cy 4), ((r2 2), kz_i cy 4), ((r2 3), kz_i cy 4), ((r2 4), kz_i cy 4), ((r2 5), kz_i cy 4), ((r2 6), kz_i cy 4), ((r2 7), kz_i cy 4), ((r2 8), kz_i cy 4), ((r2 9), kz_i cy 4), ((r2 10), kz_i cy 4), ((r2 11), kz_i cy 4), ((r2 12), kz_i cy 4), ((r2 13), kz_i cy 4), ((r2 14), kz_i cy 4), ((r2 15), kz_i cy 4), ((r2 16), kz_i cy 4), ((r2 17), kz_i cy 4), ((r2 18), kz_i cy 4), ((r2 19), kz_i cy 4), ((r2 20), kz_i cy 4), ((r2 21), kz_i cy 4), ((r2 22), kz_i cy 4), ((r2 23), kz_i cy 4), (q3, kz_q cy 10 r4), ((r4 0), kz_i cy 48), ((r4 1), kz_i cy 48), ((r4 2), kz_i cy 48), ((r4 3), kz_i cy 48), ((r4 4), kz_i cy 48), ((r4 5), kz_i cy 48), ((r4 6), kz_i cy 48), ((r4 7), kz_i cy 48), ((r4 8), kz_i cy 48), ((r4 9), kz_i cy 48), (q5, kz_l cy 48)] := hD
  refine W.widen (k := 37) (n := 658) (Nat.le_of_ble_eq_true rfl) (Nat.le_of_ble_eq_true rfl) ?_
  refine va_putF (D := D) (ci := 2) (v := .ref q5) (ty := .array .long) (C := RX2) (T := TX2) (N := 9) hx hb hts in_X2_init_X2 tyX2 tyX2_ok nmX2 hown hK hP hD hS 0 rfl rfl 5 (by decide) (hts _ (List.mem_of_getElem? (i := 12) rfl)) (fun _ h9 => h9) rfl hin rfl (by decide +kernel) rfl rfl (Nat.le_of_ble_eq_true rfl) dX2_init_47 (fun H locs hP hD hS => ?_)
  have hP : va_P D hh_cl [(h0, .inr (2, [.ref q1, .ref q3, .ref a1, .ref a2, .ref a3, .ref q5, .null, .null, .null])), (q1, kz_q cy 24 r2), ((r2 0), kz_i cy 4), ((r2 1), kz_i cy 4), ((r2 2), kz_i cy 4), ((r2 3), kz_i cy 4), ((r2 4), kz_i cy 4), ((r2 5), kz_i cy 4), ((r2 6), kz_i cy 4), ((r2 7), kz_i cy 4), ((r2 8), kz_i cy 4), ((r2 9), kz_i cy 4), ((r2 10), kz_i cy 4), ((r2 11), kz_i cy 4), ((r2 12), kz_i cy 4), ((r2 13), kz_i cy 4), ((r2 14), kz_i cy 4), ((r2 15), kz_i cy 4), ((r2 16), kz_i cy 4), ((r2 17), kz_i cy 4), ((r2 18), kz_i cy 4), ((r2 19), kz_i cy 4), ((r2 20), kz_i cy 4), ((r2 21), kz_i cy 4), ((r2 22), kz_i cy 4), ((r2 23), kz_i cy 4), (q3, kz_q cy 10 r4), ((r4 0), kz_i cy 48), ((r4 1), kz_i cy 48), ((r4 2), kz_i cy 48), ((r4 3), kz_i cy 48), ((r4 4), kz_i cy 48), ((r4 5), kz_i cy 48), ((r4 6), kz_i cy 48), ((r4 7), kz_i cy 48), ((r4 8), kz_i cy 48), ((r4 9), kz_i cy 48), (q5, kz_l cy 48)] H := hP
  have hD : va_D A [(h0, .inr (2, [.ref q1, .ref q3, .ref a1, .ref a2, .ref a3, .ref q5, .null, .null, .null])), (q1, kz_q cy 24 r2), ((r2 0), kz_i cy 4), ((r2 1), kz_i cy 4), ((r2 2), kz_i cy 4), ((r2 3), kz_i cy 4), ((r2 4), kz_i cy 4), ((r2 5), kz_i cy 4), ((r2 6), kz_i cy 4), ((r2 7), kz_i cy 4), ((r2 8), kz_i cy 4), ((r2 9), kz_i cy 4), ((r2 10), kz_i cy 4), ((r2 11), kz_i cy 4), ((r2 12), kz_i cy 4), ((r2 13), kz_i cy 4), ((r2 14), kz_i cy 4), ((r2 15), kz_i cy 4), ((r2 16), kz_i cy 4), ((r2 17), kz_i cy 4), ((r2 18), kz_i cy 4), ((r2 19), kz_i cy 4), ((r2 20), kz_i cy 4), ((r2 21), kz_i cy 4), ((r2 22), kz_i cy 4), ((r2 23), kz_i cy 4), (q3, kz_q cy 10 r4), ((r4 0), kz_i cy 48), ((r4 1), kz_i cy 48), ((r4 2), kz_i cy 48), ((r4 3), kz_i cy 48), ((r4 4), kz_i cy 48), ((r4 5), kz_i cy 48), ((r4 6), kz_i cy 48), ((r4 7), kz_i cy 48), ((r4 8), kz_i cy 48), ((r4 9), kz_i cy 48), (q5, kz_l cy 48)] := hD
  refine lv_aload_n hx hb dX2_init_50 rfl (lv_at hl 0 rfl) ?_
  refine lv_iconst (v := (4 : Int32)) hx hb dX2_init_51 (by decide) ?_
  refine kz_newl (n := (4 : Int32)) (N' := 4) hx hb (hts _ (List.mem_of_getElem? (i := 11) rfl)) hK hP hD hS hA (by decide) (by decide) (by decide) (Nat.le_of_ble_eq_true rfl) (Nat.le_of_ble_eq_true rfl) dX2_init_52 (fun q6 H hP hD hS => ?_)
  have hP : va_P D hh_cl [(h0, .inr (2, [.ref q1, .ref q3, .ref a1, .ref a2, .ref a3, .ref q5, .null, .null, .null])), (q1, kz_q cy 24 r2), ((r2 0), kz_i cy 4), ((r2 1), kz_i cy 4), ((r2 2), kz_i cy 4), ((r2 3), kz_i cy 4), ((r2 4), kz_i cy 4), ((r2 5), kz_i cy 4), ((r2 6), kz_i cy 4), ((r2 7), kz_i cy 4), ((r2 8), kz_i cy 4), ((r2 9), kz_i cy 4), ((r2 10), kz_i cy 4), ((r2 11), kz_i cy 4), ((r2 12), kz_i cy 4), ((r2 13), kz_i cy 4), ((r2 14), kz_i cy 4), ((r2 15), kz_i cy 4), ((r2 16), kz_i cy 4), ((r2 17), kz_i cy 4), ((r2 18), kz_i cy 4), ((r2 19), kz_i cy 4), ((r2 20), kz_i cy 4), ((r2 21), kz_i cy 4), ((r2 22), kz_i cy 4), ((r2 23), kz_i cy 4), (q3, kz_q cy 10 r4), ((r4 0), kz_i cy 48), ((r4 1), kz_i cy 48), ((r4 2), kz_i cy 48), ((r4 3), kz_i cy 48), ((r4 4), kz_i cy 48), ((r4 5), kz_i cy 48), ((r4 6), kz_i cy 48), ((r4 7), kz_i cy 48), ((r4 8), kz_i cy 48), ((r4 9), kz_i cy 48), (q5, kz_l cy 48), (q6, kz_l cy 4)] H := hP
  have hD : va_D A [(h0, .inr (2, [.ref q1, .ref q3, .ref a1, .ref a2, .ref a3, .ref q5, .null, .null, .null])), (q1, kz_q cy 24 r2), ((r2 0), kz_i cy 4), ((r2 1), kz_i cy 4), ((r2 2), kz_i cy 4), ((r2 3), kz_i cy 4), ((r2 4), kz_i cy 4), ((r2 5), kz_i cy 4), ((r2 6), kz_i cy 4), ((r2 7), kz_i cy 4), ((r2 8), kz_i cy 4), ((r2 9), kz_i cy 4), ((r2 10), kz_i cy 4), ((r2 11), kz_i cy 4), ((r2 12), kz_i cy 4), ((r2 13), kz_i cy 4), ((r2 14), kz_i cy 4), ((r2 15), kz_i cy 4), ((r2 16), kz_i cy 4), ((r2 17), kz_i cy 4), ((r2 18), kz_i cy 4), ((r2 19), kz_i cy 4), ((r2 20), kz_i cy 4), ((r2 21), kz_i cy 4), ((r2 22), kz_i cy 4), ((r2 23), kz_i cy 4), (q3, kz_q cy 10 r4), ((r4 0), kz_i cy 48), ((r4 1), kz_i cy 48), ((r4 2), kz_i cy 48), ((r4 3), kz_i cy 48), ((r4 4), kz_i cy 48), ((r4 5), kz_i cy 48), ((r4 6), kz_i cy 48), ((r4 7), kz_i cy 48), ((r4 8), kz_i cy 48), ((r4 9), kz_i cy 48), (q5, kz_l cy 48), (q6, kz_l cy 4)] := hD
  refine W.widen (k := 38) (n := 662) (Nat.le_of_ble_eq_true rfl) (Nat.le_of_ble_eq_true rfl) ?_
  refine va_putF (D := D) (ci := 2) (v := .ref q6) (ty := .array .long) (C := RX2) (T := TX2) (N := 9) hx hb hts in_X2_init_X2 tyX2 tyX2_ok nmX2 hown hK hP hD hS 0 rfl rfl 6 (by decide) (hts _ (List.mem_of_getElem? (i := 13) rfl)) (fun _ h9 => h9) rfl hin rfl (by decide +kernel) rfl rfl (Nat.le_of_ble_eq_true rfl) dX2_init_54 (fun H locs hP hD hS => ?_)
  have hP : va_P D hh_cl [(h0, .inr (2, [.ref q1, .ref q3, .ref a1, .ref a2, .ref a3, .ref q5, .ref q6, .null, .null])), (q1, kz_q cy 24 r2), ((r2 0), kz_i cy 4), ((r2 1), kz_i cy 4), ((r2 2), kz_i cy 4), ((r2 3), kz_i cy 4), ((r2 4), kz_i cy 4), ((r2 5), kz_i cy 4), ((r2 6), kz_i cy 4), ((r2 7), kz_i cy 4), ((r2 8), kz_i cy 4), ((r2 9), kz_i cy 4), ((r2 10), kz_i cy 4), ((r2 11), kz_i cy 4), ((r2 12), kz_i cy 4), ((r2 13), kz_i cy 4), ((r2 14), kz_i cy 4), ((r2 15), kz_i cy 4), ((r2 16), kz_i cy 4), ((r2 17), kz_i cy 4), ((r2 18), kz_i cy 4), ((r2 19), kz_i cy 4), ((r2 20), kz_i cy 4), ((r2 21), kz_i cy 4), ((r2 22), kz_i cy 4), ((r2 23), kz_i cy 4), (q3, kz_q cy 10 r4), ((r4 0), kz_i cy 48), ((r4 1), kz_i cy 48), ((r4 2), kz_i cy 48), ((r4 3), kz_i cy 48), ((r4 4), kz_i cy 48), ((r4 5), kz_i cy 48), ((r4 6), kz_i cy 48), ((r4 7), kz_i cy 48), ((r4 8), kz_i cy 48), ((r4 9), kz_i cy 48), (q5, kz_l cy 48), (q6, kz_l cy 4)] H := hP
  have hD : va_D A [(h0, .inr (2, [.ref q1, .ref q3, .ref a1, .ref a2, .ref a3, .ref q5, .ref q6, .null, .null])), (q1, kz_q cy 24 r2), ((r2 0), kz_i cy 4), ((r2 1), kz_i cy 4), ((r2 2), kz_i cy 4), ((r2 3), kz_i cy 4), ((r2 4), kz_i cy 4), ((r2 5), kz_i cy 4), ((r2 6), kz_i cy 4), ((r2 7), kz_i cy 4), ((r2 8), kz_i cy 4), ((r2 9), kz_i cy 4), ((r2 10), kz_i cy 4), ((r2 11), kz_i cy 4), ((r2 12), kz_i cy 4), ((r2 13), kz_i cy 4), ((r2 14), kz_i cy 4), ((r2 15), kz_i cy 4), ((r2 16), kz_i cy 4), ((r2 17), kz_i cy 4), ((r2 18), kz_i cy 4), ((r2 19), kz_i cy 4), ((r2 20), kz_i cy 4), ((r2 21), kz_i cy 4), ((r2 22), kz_i cy 4), ((r2 23), kz_i cy 4), (q3, kz_q cy 10 r4), ((r4 0), kz_i cy 48), ((r4 1), kz_i cy 48), ((r4 2), kz_i cy 48), ((r4 3), kz_i cy 48), ((r4 4), kz_i cy 48), ((r4 5), kz_i cy 48), ((r4 6), kz_i cy 48), ((r4 7), kz_i cy 48), ((r4 8), kz_i cy 48), ((r4 9), kz_i cy 48), (q5, kz_l cy 48), (q6, kz_l cy 4)] := hD
  refine lv_aload_n hx hb dX2_init_57 rfl (lv_at hl 0 rfl) ?_
  refine lv_iconst (v := (4 : Int32)) hx hb dX2_init_58 (by decide) ?_
  refine kz_newl (n := (4 : Int32)) (N' := 4) hx hb (hts _ (List.mem_of_getElem? (i := 11) rfl)) hK hP hD hS hA (by decide) (by decide) (by decide) (Nat.le_of_ble_eq_true rfl) (Nat.le_of_ble_eq_true rfl) dX2_init_59 (fun q7 H hP hD hS => ?_)
  have hP : va_P D hh_cl [(h0, .inr (2, [.ref q1, .ref q3, .ref a1, .ref a2, .ref a3, .ref q5, .ref q6, .null, .null])), (q1, kz_q cy 24 r2), ((r2 0), kz_i cy 4), ((r2 1), kz_i cy 4), ((r2 2), kz_i cy 4), ((r2 3), kz_i cy 4), ((r2 4), kz_i cy 4), ((r2 5), kz_i cy 4), ((r2 6), kz_i cy 4), ((r2 7), kz_i cy 4), ((r2 8), kz_i cy 4), ((r2 9), kz_i cy 4), ((r2 10), kz_i cy 4), ((r2 11), kz_i cy 4), ((r2 12), kz_i cy 4), ((r2 13), kz_i cy 4), ((r2 14), kz_i cy 4), ((r2 15), kz_i cy 4), ((r2 16), kz_i cy 4), ((r2 17), kz_i cy 4), ((r2 18), kz_i cy 4), ((r2 19), kz_i cy 4), ((r2 20), kz_i cy 4), ((r2 21), kz_i cy 4), ((r2 22), kz_i cy 4), ((r2 23), kz_i cy 4), (q3, kz_q cy 10 r4), ((r4 0), kz_i cy 48), ((r4 1), kz_i cy 48), ((r4 2), kz_i cy 48), ((r4 3), kz_i cy 48), ((r4 4), kz_i cy 48), ((r4 5), kz_i cy 48), ((r4 6), kz_i cy 48), ((r4 7), kz_i cy 48), ((r4 8), kz_i cy 48), ((r4 9), kz_i cy 48), (q5, kz_l cy 48), (q6, kz_l cy 4), (q7, kz_l cy 4)] H := hP
  have hD : va_D A [(h0, .inr (2, [.ref q1, .ref q3, .ref a1, .ref a2, .ref a3, .ref q5, .ref q6, .null, .null])), (q1, kz_q cy 24 r2), ((r2 0), kz_i cy 4), ((r2 1), kz_i cy 4), ((r2 2), kz_i cy 4), ((r2 3), kz_i cy 4), ((r2 4), kz_i cy 4), ((r2 5), kz_i cy 4), ((r2 6), kz_i cy 4), ((r2 7), kz_i cy 4), ((r2 8), kz_i cy 4), ((r2 9), kz_i cy 4), ((r2 10), kz_i cy 4), ((r2 11), kz_i cy 4), ((r2 12), kz_i cy 4), ((r2 13), kz_i cy 4), ((r2 14), kz_i cy 4), ((r2 15), kz_i cy 4), ((r2 16), kz_i cy 4), ((r2 17), kz_i cy 4), ((r2 18), kz_i cy 4), ((r2 19), kz_i cy 4), ((r2 20), kz_i cy 4), ((r2 21), kz_i cy 4), ((r2 22), kz_i cy 4), ((r2 23), kz_i cy 4), (q3, kz_q cy 10 r4), ((r4 0), kz_i cy 48), ((r4 1), kz_i cy 48), ((r4 2), kz_i cy 48), ((r4 3), kz_i cy 48), ((r4 4), kz_i cy 48), ((r4 5), kz_i cy 48), ((r4 6), kz_i cy 48), ((r4 7), kz_i cy 48), ((r4 8), kz_i cy 48), ((r4 9), kz_i cy 48), (q5, kz_l cy 48), (q6, kz_l cy 4), (q7, kz_l cy 4)] := hD
  refine W.widen (k := 39) (n := 666) (Nat.le_of_ble_eq_true rfl) (Nat.le_of_ble_eq_true rfl) ?_
  refine va_putF (D := D) (ci := 2) (v := .ref q7) (ty := .array .long) (C := RX2) (T := TX2) (N := 9) hx hb hts in_X2_init_X2 tyX2 tyX2_ok nmX2 hown hK hP hD hS 0 rfl rfl 7 (by decide) (hts _ (List.mem_of_getElem? (i := 14) rfl)) (fun _ h9 => h9) rfl hin rfl (by decide +kernel) rfl rfl (Nat.le_of_ble_eq_true rfl) dX2_init_61 (fun H locs hP hD hS => ?_)
  have hP : va_P D hh_cl [(h0, .inr (2, [.ref q1, .ref q3, .ref a1, .ref a2, .ref a3, .ref q5, .ref q6, .ref q7, .null])), (q1, kz_q cy 24 r2), ((r2 0), kz_i cy 4), ((r2 1), kz_i cy 4), ((r2 2), kz_i cy 4), ((r2 3), kz_i cy 4), ((r2 4), kz_i cy 4), ((r2 5), kz_i cy 4), ((r2 6), kz_i cy 4), ((r2 7), kz_i cy 4), ((r2 8), kz_i cy 4), ((r2 9), kz_i cy 4), ((r2 10), kz_i cy 4), ((r2 11), kz_i cy 4), ((r2 12), kz_i cy 4), ((r2 13), kz_i cy 4), ((r2 14), kz_i cy 4), ((r2 15), kz_i cy 4), ((r2 16), kz_i cy 4), ((r2 17), kz_i cy 4), ((r2 18), kz_i cy 4), ((r2 19), kz_i cy 4), ((r2 20), kz_i cy 4), ((r2 21), kz_i cy 4), ((r2 22), kz_i cy 4), ((r2 23), kz_i cy 4), (q3, kz_q cy 10 r4), ((r4 0), kz_i cy 48), ((r4 1), kz_i cy 48), ((r4 2), kz_i cy 48), ((r4 3), kz_i cy 48), ((r4 4), kz_i cy 48), ((r4 5), kz_i cy 48), ((r4 6), kz_i cy 48), ((r4 7), kz_i cy 48), ((r4 8), kz_i cy 48), ((r4 9), kz_i cy 48), (q5, kz_l cy 48), (q6, kz_l cy 4), (q7, kz_l cy 4)] H := hP
  have hD : va_D A [(h0, .inr (2, [.ref q1, .ref q3, .ref a1, .ref a2, .ref a3, .ref q5, .ref q6, .ref q7, .null])), (q1, kz_q cy 24 r2), ((r2 0), kz_i cy 4), ((r2 1), kz_i cy 4), ((r2 2), kz_i cy 4), ((r2 3), kz_i cy 4), ((r2 4), kz_i cy 4), ((r2 5), kz_i cy 4), ((r2 6), kz_i cy 4), ((r2 7), kz_i cy 4), ((r2 8), kz_i cy 4), ((r2 9), kz_i cy 4), ((r2 10), kz_i cy 4), ((r2 11), kz_i cy 4), ((r2 12), kz_i cy 4), ((r2 13), kz_i cy 4), ((r2 14), kz_i cy 4), ((r2 15), kz_i cy 4), ((r2 16), kz_i cy 4), ((r2 17), kz_i cy 4), ((r2 18), kz_i cy 4), ((r2 19), kz_i cy 4), ((r2 20), kz_i cy 4), ((r2 21), kz_i cy 4), ((r2 22), kz_i cy 4), ((r2 23), kz_i cy 4), (q3, kz_q cy 10 r4), ((r4 0), kz_i cy 48), ((r4 1), kz_i cy 48), ((r4 2), kz_i cy 48), ((r4 3), kz_i cy 48), ((r4 4), kz_i cy 48), ((r4 5), kz_i cy 48), ((r4 6), kz_i cy 48), ((r4 7), kz_i cy 48), ((r4 8), kz_i cy 48), ((r4 9), kz_i cy 48), (q5, kz_l cy 48), (q6, kz_l cy 4), (q7, kz_l cy 4)] := hD
  refine lv_aload_n hx hb dX2_init_64 rfl (lv_at hl 0 rfl) ?_
  refine lv_bipush (v := (24 : Int32)) hx hb dX2_init_65 (by decide) ?_
  refine kz_newi (n := (24 : Int32)) (N' := 24) hx hb (hts _ (List.mem_of_getElem? (i := 8) rfl)) hK hP hD hS hA (by decide) (by decide) (by decide) (Nat.le_of_ble_eq_true rfl) (Nat.le_of_ble_eq_true rfl) dX2_init_67 (fun q8 H hP hD hS => ?_)
  have hP : va_P D hh_cl [(h0, .inr (2, [.ref q1, .ref q3, .ref a1, .ref a2, .ref a3, .ref q5, .ref q6, .ref q7, .null])), (q1, kz_q cy 24 r2), ((r2 0), kz_i cy 4), ((r2 1), kz_i cy 4), ((r2 2), kz_i cy 4), ((r2 3), kz_i cy 4), ((r2 4), kz_i cy 4), ((r2 5), kz_i cy 4), ((r2 6), kz_i cy 4), ((r2 7), kz_i cy 4), ((r2 8), kz_i cy 4), ((r2 9), kz_i cy 4), ((r2 10), kz_i cy 4), ((r2 11), kz_i cy 4), ((r2 12), kz_i cy 4), ((r2 13), kz_i cy 4), ((r2 14), kz_i cy 4), ((r2 15), kz_i cy 4), ((r2 16), kz_i cy 4), ((r2 17), kz_i cy 4), ((r2 18), kz_i cy 4), ((r2 19), kz_i cy 4), ((r2 20), kz_i cy 4), ((r2 21), kz_i cy 4), ((r2 22), kz_i cy 4), ((r2 23), kz_i cy 4), (q3, kz_q cy 10 r4), ((r4 0), kz_i cy 48), ((r4 1), kz_i cy 48), ((r4 2), kz_i cy 48), ((r4 3), kz_i cy 48), ((r4 4), kz_i cy 48), ((r4 5), kz_i cy 48), ((r4 6), kz_i cy 48), ((r4 7), kz_i cy 48), ((r4 8), kz_i cy 48), ((r4 9), kz_i cy 48), (q5, kz_l cy 48), (q6, kz_l cy 4), (q7, kz_l cy 4), (q8, kz_i cy 24)] H := hP
  have hD : va_D A [(h0, .inr (2, [.ref q1, .ref q3, .ref a1, .ref a2, .ref a3, .ref q5, .ref q6, .ref q7, .null])), (q1, kz_q cy 24 r2), ((r2 0), kz_i cy 4), ((r2 1), kz_i cy 4), ((r2 2), kz_i cy 4), ((r2 3), kz_i cy 4), ((r2 4), kz_i cy 4), ((r2 5), kz_i cy 4), ((r2 6), kz_i cy 4), ((r2 7), kz_i cy 4), ((r2 8), kz_i cy 4), ((r2 9), kz_i cy 4), ((r2 10), kz_i cy 4), ((r2 11), kz_i cy 4), ((r2 12), kz_i cy 4), ((r2 13), kz_i cy 4), ((r2 14), kz_i cy 4), ((r2 15), kz_i cy 4), ((r2 16), kz_i cy 4), ((r2 17), kz_i cy 4), ((r2 18), kz_i cy 4), ((r2 19), kz_i cy 4), ((r2 20), kz_i cy 4), ((r2 21), kz_i cy 4), ((r2 22), kz_i cy 4), ((r2 23), kz_i cy 4), (q3, kz_q cy 10 r4), ((r4 0), kz_i cy 48), ((r4 1), kz_i cy 48), ((r4 2), kz_i cy 48), ((r4 3), kz_i cy 48), ((r4 4), kz_i cy 48), ((r4 5), kz_i cy 48), ((r4 6), kz_i cy 48), ((r4 7), kz_i cy 48), ((r4 8), kz_i cy 48), ((r4 9), kz_i cy 48), (q5, kz_l cy 48), (q6, kz_l cy 4), (q7, kz_l cy 4), (q8, kz_i cy 24)] := hD
  refine W.widen (k := 40) (n := 690) (Nat.le_of_ble_eq_true rfl) (Nat.le_of_ble_eq_true rfl) ?_
  refine va_putF (D := D) (ci := 2) (v := .ref q8) (ty := .array .int) (C := RX2) (T := TX2) (N := 9) hx hb hts in_X2_init_X2 tyX2 tyX2_ok nmX2 hown hK hP hD hS 0 rfl rfl 8 (by decide) (hts _ (List.mem_of_getElem? (i := 15) rfl)) (fun _ h9 => h9) rfl hin rfl (by decide +kernel) rfl rfl (Nat.le_of_ble_eq_true rfl) dX2_init_69 (fun H locs hP hD hS => ?_)
  have hP : va_P D hh_cl [(h0, .inr (2, [.ref q1, .ref q3, .ref a1, .ref a2, .ref a3, .ref q5, .ref q6, .ref q7, .ref q8])), (q1, kz_q cy 24 r2), ((r2 0), kz_i cy 4), ((r2 1), kz_i cy 4), ((r2 2), kz_i cy 4), ((r2 3), kz_i cy 4), ((r2 4), kz_i cy 4), ((r2 5), kz_i cy 4), ((r2 6), kz_i cy 4), ((r2 7), kz_i cy 4), ((r2 8), kz_i cy 4), ((r2 9), kz_i cy 4), ((r2 10), kz_i cy 4), ((r2 11), kz_i cy 4), ((r2 12), kz_i cy 4), ((r2 13), kz_i cy 4), ((r2 14), kz_i cy 4), ((r2 15), kz_i cy 4), ((r2 16), kz_i cy 4), ((r2 17), kz_i cy 4), ((r2 18), kz_i cy 4), ((r2 19), kz_i cy 4), ((r2 20), kz_i cy 4), ((r2 21), kz_i cy 4), ((r2 22), kz_i cy 4), ((r2 23), kz_i cy 4), (q3, kz_q cy 10 r4), ((r4 0), kz_i cy 48), ((r4 1), kz_i cy 48), ((r4 2), kz_i cy 48), ((r4 3), kz_i cy 48), ((r4 4), kz_i cy 48), ((r4 5), kz_i cy 48), ((r4 6), kz_i cy 48), ((r4 7), kz_i cy 48), ((r4 8), kz_i cy 48), ((r4 9), kz_i cy 48), (q5, kz_l cy 48), (q6, kz_l cy 4), (q7, kz_l cy 4), (q8, kz_i cy 24)] H := hP
  have hD : va_D A [(h0, .inr (2, [.ref q1, .ref q3, .ref a1, .ref a2, .ref a3, .ref q5, .ref q6, .ref q7, .ref q8])), (q1, kz_q cy 24 r2), ((r2 0), kz_i cy 4), ((r2 1), kz_i cy 4), ((r2 2), kz_i cy 4), ((r2 3), kz_i cy 4), ((r2 4), kz_i cy 4), ((r2 5), kz_i cy 4), ((r2 6), kz_i cy 4), ((r2 7), kz_i cy 4), ((r2 8), kz_i cy 4), ((r2 9), kz_i cy 4), ((r2 10), kz_i cy 4), ((r2 11), kz_i cy 4), ((r2 12), kz_i cy 4), ((r2 13), kz_i cy 4), ((r2 14), kz_i cy 4), ((r2 15), kz_i cy 4), ((r2 16), kz_i cy 4), ((r2 17), kz_i cy 4), ((r2 18), kz_i cy 4), ((r2 19), kz_i cy 4), ((r2 20), kz_i cy 4), ((r2 21), kz_i cy 4), ((r2 22), kz_i cy 4), ((r2 23), kz_i cy 4), (q3, kz_q cy 10 r4), ((r4 0), kz_i cy 48), ((r4 1), kz_i cy 48), ((r4 2), kz_i cy 48), ((r4 3), kz_i cy 48), ((r4 4), kz_i cy 48), ((r4 5), kz_i cy 48), ((r4 6), kz_i cy 48), ((r4 7), kz_i cy 48), ((r4 8), kz_i cy 48), ((r4 9), kz_i cy 48), (q5, kz_l cy 48), (q6, kz_l cy 4), (q7, kz_l cy 4), (q8, kz_i cy 24)] := hD
  exact W.vret hx hb hr (fun t ht hW => ⟨⟨((fun k => [q1, q3, q5, q6, q7, q8].getD k 0, fun k => [r2, r4].getD k (fun _ => 0)) : (Nat → Nat) × (Nat → Nat → Nat)), rfl, trivial, (by rw [ht]; exact hP : va_P D hh_cl (kl_X2 cy h0 a1 a2 a3 (fun k => [q1, q3, q5, q6, q7, q8].getD k 0, fun k => [r2, r4].getD k (fun _ => 0))) t.heap), hD⟩, hS.F ht⟩) hS.2.2 dX2_init_72
def kl_X5 (cy : Nat → ClassId) (h0 : Nat) (u : (Nat → Nat) × (Nat → Nat → Nat)) : va_W := [(h0, .inr (5, [.ref (u.1 0)])), ((u.1 0), .inl (cy 0, 6, .inl (va_cpy hz_first (fun _ => 0) 0 0 6)))]
theorem in_X5_init_X5 : ∀ w ∈ u_ws RX5 TX5 1, w ∈ wsX5_init := fun w h => List.mem_cons_of_mem _ (List.mem_append_right _ h)
abbrev rm_X5_init : Room := { frames := 1, cells := 1, slots := 6, locals := 40 }
set_option maxHeartbeats 4000000 in
set_option maxRecDepth 100000 in
theorem ci_X5 {D : va_G} {cy : Nat → ClassId} (l : Launch) (h0 sz : Nat) : Met l yX5_init wsX5_init rm_X5_init (va_Pc [.ref h0] (ki_B D cy [(h0, .inr (5, [.null]))] sz)) (va_Qv (fun _ => True) (ki_E D (va_A [(h0, .inr (5, [.null]))] sz) (kl_X5 cy h0)) (va_A [(h0, .inr (5, [.null]))] sz)) 1 6 (va_A [(h0, .inr (5, [.null]))] sz) := by
  refine Met.ofW (cc := cX5_init) (maxL := 1) (ret := none) (by decide) rfl ?_
  intro p e s m args below meth c s₁ B hml hv
  obtain ⟨rfl, hsz, hP, hK, hD0, hAO, hZ⟩ := hv
  have hx := B.exec
  have hb := B.bytes
  have hr := B.returns
  have hts := atoms_spec (ws := wsX5_init) B.pre
  have hown : s.vm.findClass RX5 = some m.cls := findClass_of_methodNamed B.named
  have hlocks := B.notSynchronized
  have hin : meth.name = "<init>" := (name_of_methodNamed B.named B.method).1
  subst hsz
  have hD := hD0.self (sz := s.heap.size)
  generalize hAe : va_A [(h0, .inr (5, [.null]))] s.heap.size = A at hD hZ ⊢
  have hA : ∀ q : Nat, s.heap.size ≤ q → A q := fun q h => by rw [← hAe]; exact Or.inr h
  have hS : va_S A s.heap s.heap [] := va_S.rf
  obtain ⟨t1, t2, t3, z1, T1, -⟩ := id hZ
  have hP : va_P D hh_cl [(h0, .inr (5, [.null]))] s.heap := hP
  refine hh_entry (vs := [.ref h0]) (Nat.le_of_ble_eq_true rfl) (fun ls hl => ?_)
  have hl : lv_has ls 1 [(0, .ref h0)] := hl
  refine lv_aload_n hx hb dX5_init_0 rfl (lv_at hl 0 rfl) ?_
  refine W.objInit hx hb hown (hts _ (List.mem_of_getElem? (i := 1) rfl)) (hts _ (List.mem_of_getElem? (i := 2) rfl)) (hts _ (List.mem_of_getElem? (i := 3) rfl)) rfl (by rw [hml]; exact hl.1) rfl dX5_init_1 (Nat.le_of_ble_eq_true rfl) (Nat.le_of_ble_eq_true rfl) ?_
  refine W.eq (g2 := F0 m 4 ls []) rfl ?_
  refine lv_aload_n hx hb dX5_init_4 rfl (lv_at hl 0 rfl) ?_
  refine va_gets (C := RX5) (n := "FIRST") (d := "[I") (v := .ref t1) hx hb z1 hS hown (hts _ (List.mem_of_getElem? (i := 4) rfl)) (fun _ q => q) dX5_init_5 ?_
  refine va_tlen hx hb T1 hS (v := (6 : Int32)) rfl dX5_init_8 ?_
  refine kz_newi (n := (6 : Int32)) (N' := 6) hx hb (hts _ (List.mem_of_getElem? (i := 5) rfl)) hK hP hD hS hA (by decide) (by decide) (by decide) (Nat.le_of_ble_eq_true rfl) (Nat.le_of_ble_eq_true rfl) dX5_init_9 (fun q1 H hP hD hS => ?_)
  have hP : va_P D hh_cl [(h0, .inr (5, [.null])), (q1, kz_i cy 6)] H := hP
  have hD : va_D A [(h0, .inr (5, [.null])), (q1, kz_i cy 6)] := hD
  refine W.widen (k := 1) (n := 6) (Nat.le_of_ble_eq_true rfl) (Nat.le_of_ble_eq_true rfl) ?_
  refine va_putF (D := D) (ci := 5) (v := .ref q1) (ty := .array .int) (C := RX5) (T := TX5) (N := 1) hx hb hts in_X5_init_X5 tyX5 tyX5_ok nmX5 hown hK hP hD hS 0 rfl rfl 0 (by decide) (hts _ (List.mem_of_getElem? (i := 6) rfl)) (fun _ h9 => h9) rfl hin rfl (by decide +kernel) rfl rfl (Nat.le_of_ble_eq_true rfl) dX5_init_11 (fun H locs hP hD hS => ?_)
  have hP : va_P D hh_cl [(h0, .inr (5, [.ref q1])), (q1, kz_i cy 6)] H := hP
  have hD : va_D A [(h0, .inr (5, [.ref q1])), (q1, kz_i cy 6)] := hD
  refine va_gets (C := RX5) (n := "FIRST") (d := "[I") (v := .ref t1) hx hb z1 hS hown (hts _ (List.mem_of_getElem? (i := 4) rfl)) (fun _ q => q) dX5_init_14 ?_
  refine lv_iconst (v := (0 : Int32)) hx hb dX5_init_17 (by decide) ?_
  refine lv_aload_n hx hb dX5_init_18 rfl (lv_at hl 0 rfl) ?_
  refine va_get (D := D) (ci := 5) (v := .ref q1) (C := RX5) (T := TX5) (N := 1) hx hb hts in_X5_init_X5 hown hK hP 0 rfl rfl 0 (by decide) (hts _ (List.mem_of_getElem? (i := 6) rfl)) (fun _ h9 => h9) rfl dX5_init_19 ?_
  refine lv_iconst (v := (0 : Int32)) hx hb dX5_init_22 (by decide) ?_
  refine va_gets (C := RX5) (n := "FIRST") (d := "[I") (v := .ref t1) hx hb z1 hS hown (hts _ (List.mem_of_getElem? (i := 4) rfl)) (fun _ q => q) dX5_init_23 ?_
  refine va_tlen hx hb T1 hS (v := (6 : Int32)) rfl dX5_init_26 ?_
  refine kz_cpT (n := (6 : Int32)) (dp := (0 : Int32)) (sp := (0 : Int32)) (f := hz_first) (g := fun _ => 0) hx hb (by rw [hml]; exact hl.1.symm) hown (hts _ (List.mem_of_getElem? (i := 7) rfl)) (hts _ (List.mem_of_getElem? (i := 8) rfl)) (hts _ (List.mem_of_getElem? (i := 9) rfl)) (hts _ (List.mem_of_getElem? (i := 10) rfl)) hK hP hD hS T1 1 rfl (by decide) (by decide) (by decide) (by decide) (by decide) (Nat.le_of_ble_eq_true rfl) (Nat.le_of_ble_eq_true rfl) dX5_init_27 (fun H locs hP hD hS => ?_)
  have hP : va_P D hh_cl [(h0, .inr (5, [.ref q1])), (q1, .inl (cy 0, 6, .inl (va_cpy hz_first (fun _ => 0) 0 0 6)))] H := hP
  have hD : va_D A [(h0, .inr (5, [.ref q1])), (q1, .inl (cy 0, 6, .inl (va_cpy hz_first (fun _ => 0) 0 0 6)))] := hD
  exact W.vret hx hb hr (fun t ht hW => ⟨⟨((fun k => [q1].getD k 0, fun k => ([] : List (Nat → Nat)).getD k (fun _ => 0)) : (Nat → Nat) × (Nat → Nat → Nat)), rfl, trivial, (by rw [ht]; exact hP : va_P D hh_cl (kl_X5 cy h0 (fun k => [q1].getD k 0, fun k => ([] : List (Nat → Nat)).getD k (fun _ => 0))) t.heap), hD⟩, hS.F ht⟩) hS.2.2 dX5_init_30
