theorem ps_fault : RR_i wp_X8_fault wp_X9_fault := by
  rintro c m ⟨sn, ns, ni, nh, R1, RC, R7, R8, R9⟩
  unfold wp_X8_fault
  refine s7_read R1 ?_
  intro x c' FC q
  unfold wp_X9_fault
  refine q _ ?_
  intro m' FM _ _
  have h10 := RC.2.2.1.1
  have h24 := RC.2.1.1
  have cs : ∀ k, k ≠ 192 → k ≠ 67 → k ≠ 68 → k ≠ 69 → k ≠ 70 → c'.1 k = c.1 k := FC.1
  have ca : ∀ k, k < 15 ∨ 18 < k → c'.2.2.1 k = c.2.2.1 k := fun k hk => FC.2 k (by omega) (by omega) (by omega) (by omega)
  have ma : ∀ k, k < 21 ∨ 24 < k → m'.2.2.1 k = m.2.2.1 k := fun k hk => FM.2 k (by omega) (by omega) (by omega) (by omega)
  refine ⟨rfl, sn, ns, ni, nh, ?_, ?_, ?_, ?_, ?_⟩
  · exact rr_1_e (c := c) (m := m) (cs 64 (by omega) (by omega) (by omega) (by omega) (by omega)) (FM.1 0 (by omega)) (ca 19 (by omega)) (ma 1 (by omega)) R1
  · exact rr_C_m (m := m) ⟨FM.1 2 (by omega), FM.1 7 (by omega), FM.1 13 (by omega)⟩ (fun k hk => by unfold rr_km at hk; exact ma k (by omega)) (rr_C_c (c := c) ⟨cs 128 (by omega) (by omega) (by omega) (by omega) (by omega), cs 256 (by omega) (by omega) (by omega) (by omega) (by omega), cs 320 (by omega) (by omega) (by omega) (by omega) (by omega)⟩ (fun k hk => by unfold rr_kc at hk; exact ca k (by omega)) RC)
  · exact rr_7_e (c := c) (m := m) (ca 43 (by omega)) (ca 44 (by omega)) (ma 15 (by omega)) (ma 16 (by omega)) R7
  · exact rr_8_e (c := c) (m := m) (cs 9 (by omega) (by omega) (by omega) (by omega) (by omega)) (FM.1 20 (by omega)) (FM.1 21 (by omega)) (FM.1 22 (by omega)) (ma 18 (by omega)) (fun h hh => ca (79 + h) (by omega)) h10 R8
  · exact rr_9_e (c := c) (m := m) h24 (FM.1 20 (by omega)) (FM.1 21 (by omega)) (ma 3 (by omega)) (ma 6 (by omega)) (ma 8 (by omega)) (ma 9 (by omega)) (ma 17 (by omega)) (ca 22 (by omega)) (fun i hi => ca (55 + i) (by omega)) R9
