/-! ===== the law ===== -/
theorem inlX0 : ∀ w ∈ wsX00, w ∈ wsL_law := fun _ h => List.mem_append_left _ (List.mem_append_left _ (List.mem_append_left _ (List.mem_append_left _ (List.mem_append_left _ (List.mem_append_right _ h)))))
theorem inlX1 : ∀ w ∈ wsX10, w ∈ wsL_law := fun _ h => List.mem_append_left _ (List.mem_append_left _ (List.mem_append_left _ (List.mem_append_left _ (List.mem_append_left _ (List.mem_append_left _ (List.mem_append_right _ h))))))
theorem inlX2 : ∀ w ∈ wsX20, w ∈ wsL_law := fun _ h => List.mem_append_left _ (List.mem_append_left _ (List.mem_append_left _ (List.mem_append_right _ h)))
theorem inlX3 : ∀ w ∈ wsX30, w ∈ wsL_law := fun _ h => List.mem_append_left _ (List.mem_append_left _ (List.mem_append_right _ h))
theorem inlX4 : ∀ w ∈ wsX40, w ∈ wsL_law := fun _ h => List.mem_append_left _ (List.mem_append_right _ h)
theorem inlX5 : ∀ w ∈ wsX50, w ∈ wsL_law := fun _ h => List.mem_append_left _ (List.mem_append_left _ (List.mem_append_left _ (List.mem_append_left _ (List.mem_append_right _ h))))
theorem inlX6 : ∀ w ∈ wsX60, w ∈ wsL_law := fun _ h => List.mem_append_left _ (List.mem_append_left _ (List.mem_append_left _ (List.mem_append_left _ (List.mem_append_left _ (List.mem_append_left _ (List.mem_append_left _ (List.mem_append_right _ h)))))))
theorem inlX7 : ∀ w ∈ wsX70, w ∈ wsL_law := fun _ h => List.mem_append_left _ (List.mem_append_left _ (List.mem_append_left _ (List.mem_append_left _ (List.mem_append_left _ (List.mem_append_left _ (List.mem_append_left _ (List.mem_append_left _ (List.mem_append_right _ h))))))))
theorem inlX8 : ∀ w ∈ wsX80, w ∈ wsL_law := fun _ h => List.mem_append_left _ (List.mem_append_left _ (List.mem_append_left _ (List.mem_append_left _ (List.mem_append_left _ (List.mem_append_left _ (List.mem_append_left _ (List.mem_append_left _ (List.mem_append_left _ (List.mem_append_left _ (List.mem_append_right _ h))))))))))
theorem inlX9 : ∀ w ∈ wsX90, w ∈ wsL_law := fun _ h => List.mem_append_left _ (List.mem_append_left _ (List.mem_append_left _ (List.mem_append_left _ (List.mem_append_left _ (List.mem_append_left _ (List.mem_append_left _ (List.mem_append_left _ (List.mem_append_left _ (List.mem_append_right _ h)))))))))
def lk_first (n : String) (f : Nat → Int32) (args : Array Value) (s : State) : Prop := ∃ t : Nat, va_Z RX5 n "[I" (.ref t) (fun q => s.heap.size ≤ q) s s.heap ∧ va_T .int t 6 (fun j => .int (f j)) (fun q => s.heap.size ≤ q) s s.heap
theorem lk_st {n : String} {f : Nat → Int32} {args : Array Value} {s : State} (hl : (Cond.laysStatic RX5 n "[I").before args s = true) (hini : (Cond.initialized RX5).before args s = true) (harr : (Cond.arrayOf (.static RX5 n "[I") .int).before args s = true) (hlen : (Cond.eq (.length (.static RX5 n "[I")) (.int 6)).before args s = true) (hel : ∀ j : Nat, j < 6 → (Cond.eq (.elem (.static RX5 n "[I") (.int (Int32.ofNat j))) (.int (f j))).before args s = true) : lk_first n f args s := by
  have hA : ∀ a : Nat, a < s.heap.size → ¬ (fun q : Nat => s.heap.size ≤ q) a := fun a h => Nat.not_le.mpr h
  obtain ⟨t, ht, hT⟩ := va_Tof (f := fun j => .int (f j)) (A := fun q => s.heap.size ≤ q) (by decide) harr (va_eqt hlen) (fun j hj => va_eqt (hel j hj)) hA
  exact ⟨t, va_Zof hl hini ht hA, hT⟩
set_option maxRecDepth 100000 in
theorem lk_zs {args : Array Value} {s : State} (hts : ∀ w ∈ lw_tbl, w.before args s = true) (hgv : (Jvm.Cond.and given_1 narrow_1).before args s = true) : hz_ZA (fun q => s.heap.size ≤ q) s s.heap := by
  have hs := flat_of_before _ hgv
  have hini : (Cond.initialized RX5).before args s = true := hts _ (by decide +kernel)
  obtain ⟨t1, z1, T1⟩ : lk_first "FIRST" hz_first args s := lk_st (hts _ (by decide +kernel)) hini (hs _ (by decide +kernel)) (hs _ (by decide +kernel)) (fun j hj => by
    rcases (show j = 0 ∨ j = 1 ∨ j = 2 ∨ j = 3 ∨ j = 4 ∨ j = 5 by omega) with rfl | rfl | rfl | rfl | rfl | rfl
    · exact hs _ (by decide +kernel)
    · exact hs _ (by decide +kernel)
    · exact hs _ (by decide +kernel)
    · exact hs _ (by decide +kernel)
    · exact hs _ (by decide +kernel)
    · exact hs _ (by decide +kernel))
  obtain ⟨t2, z2, T2⟩ : lk_first "LOWEST" hz_low args s := lk_st (hts _ (by decide +kernel)) hini (hs _ (by decide +kernel)) (hs _ (by decide +kernel)) (fun j hj => by
    rcases (show j = 0 ∨ j = 1 ∨ j = 2 ∨ j = 3 ∨ j = 4 ∨ j = 5 by omega) with rfl | rfl | rfl | rfl | rfl | rfl
    · exact hs _ (by decide +kernel)
    · exact hs _ (by decide +kernel)
    · exact hs _ (by decide +kernel)
    · exact hs _ (by decide +kernel)
    · exact hs _ (by decide +kernel)
    · exact hs _ (by decide +kernel))
  obtain ⟨t3, z3, T3⟩ : lk_first "HIGHEST" hz_high args s := lk_st (hts _ (by decide +kernel)) hini (hs _ (by decide +kernel)) (hs _ (by decide +kernel)) (fun j hj => by
    rcases (show j = 0 ∨ j = 1 ∨ j = 2 ∨ j = 3 ∨ j = 4 ∨ j = 5 by omega) with rfl | rfl | rfl | rfl | rfl | rfl
    · exact hs _ (by decide +kernel)
    · exact hs _ (by decide +kernel)
    · exact hs _ (by decide +kernel)
    · exact hs _ (by decide +kernel)
    · exact hs _ (by decide +kernel)
    · exact hs _ (by decide +kernel))
  exact ⟨t1, t2, t3, z1, T1, z2, T2, z3, T3⟩
theorem lk_ar {t : FieldType} {args : Array Value} {s : State} (h : (Cond.arrayClass t).before args s = true) : ∃ cA : ClassId, ArrOfT s cA t ∧ s.vm.findClass ("[" ++ t.toString) = some cA := by
  obtain ⟨cA, kA, comp, h1, h2, h3⟩ := Cond.arrayClass_spec h
  exact ⟨cA, fun n z => ⟨fun k h => (by cases h), kA, h2, comp, h3⟩, h1⟩
theorem lk_aa {args : Array Value} {s : State} (h : (Cond.arrayOver (.array .int)).before args s = true) : ∃ cA : ClassId, ArrOfT s cA (.array .int) ∧ s.vm.findClass ("[" ++ (FieldType.array .int).toString) = some cA := by
  obtain ⟨comp, cA, k, -, -, h2, h3, h4⟩ := arrayOver_specB h
  exact ⟨cA, fun n z => ⟨fun k h => (by cases h), k, h2, comp, h3⟩, h4⟩
set_option maxRecDepth 100000 in
theorem lk_ks {b : Nat} {s : State} (hts : ∀ w ∈ lw_tbl, w.before #[Value.ref b] s = true) (ht : ∀ w ∈ wsL_law, w.before #[Value.ref b] s = true) : va_AOA .int s ∧ ∃ (D : va_G) (cy : Nat → ClassId), va_K D hh_cl (hh_ty cy) s := by
  have hov : (Cond.arrayOver (.array .int)).before #[Value.ref b] s = true := hts _ (by decide +kernel)
  obtain ⟨c_int, a_int, f_int⟩ := lk_ar (ht (.arrayClass .int) (List.mem_of_getElem? (i := 55) rfl))
  obtain ⟨c_boolean, a_boolean, f_boolean⟩ := lk_ar (ht (.arrayClass .boolean) (List.mem_of_getElem? (i := 80) rfl))
  obtain ⟨c_long, a_long, f_long⟩ := lk_ar (ht (.arrayClass .long) (List.mem_of_getElem? (i := 105) rfl))
  obtain ⟨c_aa, a_aa, f_aa⟩ := lk_aa hov
  obtain ⟨k0, i0, h0⟩ := u_known (C := RX0) (T := TX0) (N := 4) (n := 4) ht inlX0 (ht (.instantiable RX0 4) (List.mem_of_getElem? (i := 25) rfl))
  obtain ⟨k1, i1, h1⟩ := u_known (C := RX1) (T := TX1) (N := 7) (n := 7) ht inlX1 (ht (.instantiable RX1 7) (List.mem_of_getElem? (i := 21) rfl))
  obtain ⟨k2, i2, h2⟩ := u_known (C := RX2) (T := TX2) (N := 9) (n := 9) ht inlX2 (ht (.instantiable RX2 9) (List.mem_of_getElem? (i := 33) rfl))
  obtain ⟨k3, i3, h3⟩ := u_known (C := RX3) (T := TX3) (N := 4) (n := 4) ht inlX3 (ht (.instantiable RX3 4) (List.mem_of_getElem? (i := 38) rfl))
  obtain ⟨k4, i4, h4⟩ := u_known (C := RX4) (T := TX4) (N := 2) (n := 2) ht inlX4 (ht (.instantiable RX4 2) (List.mem_of_getElem? (i := 42) rfl))
  obtain ⟨k5, i5, h5⟩ := u_known (C := RX5) (T := TX5) (N := 1) (n := 1) ht inlX5 (ht (.instantiable RX5 1) (List.mem_of_getElem? (i := 29) rfl))
  obtain ⟨k6, i6, h6⟩ := u_known (C := RX6) (T := TX6) (N := 5) (n := 5) ht inlX6 (ht (.instantiable RX6 5) (List.mem_of_getElem? (i := 17) rfl))
  obtain ⟨k7, i7, h7⟩ := u_known (C := RX7) (T := TX7) (N := 7) (n := 7) ht inlX7 (ht (.instantiable RX7 7) (List.mem_of_getElem? (i := 13) rfl))
  obtain ⟨k8, i8, h8⟩ := u_known (C := RX8) (T := TX8) (N := 13) (n := 13) ht inlX8 (ht (.instantiable RX8 13) (List.mem_of_getElem? (i := 1) rfl))
  obtain ⟨k9, i9, h9⟩ := u_known (C := RX9) (T := TX9) (N := 37) (n := 37) ht inlX9 (ht (.instantiable RX9 37) (List.mem_of_getElem? (i := 4) rfl))
  refine ⟨va_AOA.of hov, (fun k => [k0, k1, k2, k3, k4, k5, k6, k7, k8, k9].getD k 0, fun k => [i0, i1, i2, i3, i4, i5, i6, i7, i8, i9].getD k (fun _ => 0)), fun k => [c_int, c_boolean, c_long, c_aa].getD k 0, fun k q hq => ?_, fun k q hq => ?_⟩
  · match k, hq with
    | 0, hq => cases hq; exact h0
    | 1, hq => cases hq; exact h1
    | 2, hq => cases hq; exact h2
    | 3, hq => cases hq; exact h3
    | 4, hq => cases hq; exact h4
    | 5, hq => cases hq; exact h5
    | 6, hq => cases hq; exact h6
    | 7, hq => cases hq; exact h7
    | 8, hq => cases hq; exact h8
    | 9, hq => cases hq; exact h9
    | k + 10, hq => exact absurd hq (by simp [hh_cl])
  · match k, hq with
    | 0, hq => cases hq; exact ⟨a_int, f_int⟩
    | 1, hq => cases hq; exact ⟨a_boolean, f_boolean⟩
    | 2, hq => cases hq; exact ⟨a_long, f_long⟩
    | 3, hq => cases hq; exact ⟨a_aa, f_aa⟩
    | k + 4, hq => exact absurd hq (by simp [hh_ty])
