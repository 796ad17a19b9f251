/-! ===== hand, item, known, settle ===== -/
theorem s0_add {nh : Nat} {c : hh_S} {Q : Int32 → hh_S → Prop} (hn : c.1 320 = nI nh) (hk : nh < 10) (q : ∀ c' : hh_S, (∀ k, k ≠ 320 → c'.1 k = c.1 k) → c'.1 320 = nI (nh + 1) → (∀ k, k ≠ 26 → k ≠ 27 → k ≠ 45 + nh → c'.2.2.1 k = c.2.2.1 k) → (∀ j, hh_a c' 26 j = if j = nh then 0 else hh_a c 26 j) → (∀ j, hh_a c' 27 j = if j = nh then 0 else hh_a c 27 j) → (∀ i, i < 24 → hh_a c' (45 + nh) i = -6) → Q (nI nh) c') : wp_X0_add c Q := by
  unfold wp_X0_add
  intro v hv
  have hv : v = nI nh := hv.trans hn
  subst hv
  refine ⟨pp_in (by omega) (by omega), ?_⟩
  rintro c1 rfl
  refine ⟨pp_in (by omega) (by omega), ?_⟩
  intro c2 e2
  have a26 : ∀ j, hh_a c2 26 j = if j = nh then 0 else hh_a c 26 j := by
    intro j
    rw [e2, pp_sA_n (by omega), pp_sA_a (by omega)]
    by_cases e : j = nh
    · rw [if_pos ⟨rfl, e⟩, if_pos e]; rfl
    · rw [if_neg (fun z => e z.2), if_neg e]
  have a27 : ∀ j, hh_a c2 27 j = if j = nh then 0 else hh_a c 27 j := by
    intro j
    rw [e2, pp_sA_a (by omega), pp_sA_n (by omega)]
    by_cases e : j = nh
    · rw [if_pos ⟨rfl, e⟩, if_pos e]
    · rw [if_neg (fun z => e z.2), if_neg e]
  have aO : ∀ k, k ≠ 26 → k ≠ 27 → c2.2.2.1 k = c.2.2.1 k := by
    intro k h1 h2
    rw [e2, pp_sA_f h2, pp_sA_f h1]
  have aI : c2.1 = c.1 := by rw [e2]; rfl
  refine hh_lp1_i (fun b σ => ∃ j, j ≤ 24 ∧ b = nI j ∧ σ.1 = c.1 ∧ (∀ k, k ≠ 45 + nh → σ.2.2.1 k = c2.2.2.1 k) ∧ (∀ i, i < j → hh_a σ (45 + nh) i = -6)) (fun b σ => 24 - b.toNatClampNeg) ?_ ⟨0, by omega, rfl, aI, fun _ _ => rfl, fun i hi => absurd hi (Nat.not_lt_zero i)⟩
  rintro K b σ ⟨j, hj, rfl, hI, hO, hV⟩ hK
  unfold wq_X0_add_21
  rw [show (24 : Int32) = nI 24 from rfl]
  refine pp_c _ (pp_le (by omega) (by omega)) (fun e => ?_) (fun e => ?_)
  · have e : j = 24 := by omega
    subst e
    rintro σ2 rfl
    refine q _ ?_ ?_ ?_ ?_ ?_ ?_
    · intro k h1
      show (if k = 320 then _ else σ.1 k) = _
      rw [if_neg h1, hI]
    · show (σ.1 320 + 1 : Int32) = _
      rw [hI, hn]
      exact nI_1 nh
    · intro k h1 h2 h3
      exact (hO k h3).trans (aO k h1 h2)
    · intro j
      exact (congrFun (hO 26 (by omega)) j).trans (a26 j)
    · intro j
      exact (congrFun (hO 27 (by omega)) j).trans (a27 j)
    · exact hV
  · refine ⟨pp_in (by omega) (by omega), pp_in (by omega) (by omega), ?_⟩
    intro σ5 e5
    rw [pp_cl (by omega)] at e5
    rw [show (1 : Int32) = nI 1 from rfl, nI_add]
    refine hK _ _ ⟨j + 1, by omega, rfl, by rw [e5]; exact hI, fun k h1 => by rw [e5, pp_sA_f h1]; exact hO k h1, fun i hi => ?_⟩ (by rw [pp_cl (by omega), pp_cl (by omega)]; omega)
    rw [e5, pp_sA_a (by omega)]
    by_cases e6 : i = j
    · rw [if_pos ⟨rfl, e6⟩]
    · rw [if_neg (fun z => e6 z.2)]
      exact hV i (by omega)
theorem s9_hand {nh : Nat} {m : hh_S} {Q : Int32 → hh_S → Prop} (hn : m.1 13 = nI nh) (hk : nh < 10) (q : ∀ m' : hh_S, (∀ k, k ≠ 13 → m'.1 k = m.1 k) → m'.1 13 = nI (nh + 1) → (∀ k, k ≠ 11 → k ≠ 12 → k ≠ 13 → m'.2.2.1 k = m.2.2.1 k) → (∀ j, hh_a m' 11 j = if j = nh then 0 else hh_a m 11 j) → (∀ j, hh_a m' 12 j = if j = nh then 0 else hh_a m 12 j) → (∀ i, i < 24 → hh_a m' 13 (24 * nh + i) = 0) → (∀ p, p < 24 * nh → hh_a m' 13 p = hh_a m 13 p) → Q (nI nh) m') : wp_X9_hand m Q := by
  unfold wp_X9_hand
  show (¬ m.1 13 = 10 → _) ∧ (m.1 13 = 10 → _)
  rw [hn, show (10 : Int32) = nI 10 from rfl]
  refine pp_nc _ (pp_eq (by omega) (by omega)) (fun _ => ?_) (fun e => absurd e (by omega))
  refine ⟨by show vp_in (m.1 13) 10; rw [hn]; exact pp_in (by omega) (by omega), ?_⟩
  intro m1 e1
  have e1 : m1 = hh_sA m 11 (nI nh) (vp_nar .boolean 0) := by rw [e1]; show hh_sA m 11 (m.1 13) _ = _; rw [hn]
  have n1 : m1.1 13 = nI nh := by rw [e1]; exact hn
  refine ⟨by show vp_in (m1.1 13) 10; rw [n1]; exact pp_in (by omega) (by omega), ?_⟩
  intro c2 e2
  have e2 : c2 = hh_sA m1 12 (nI nh) 0 := by rw [e2]; show hh_sA m1 12 (m1.1 13) _ = _; rw [n1]
  have a26 : ∀ j, hh_a c2 11 j = if j = nh then 0 else hh_a m 11 j := by
    intro j
    rw [e2, pp_sA_n (by omega), e1, pp_sA_a (by omega)]
    by_cases e : j = nh
    · rw [if_pos ⟨rfl, e⟩, if_pos e]; rfl
    · rw [if_neg (fun z => e z.2), if_neg e]
  have a27 : ∀ j, hh_a c2 12 j = if j = nh then 0 else hh_a m 12 j := by
    intro j
    rw [e2, pp_sA_a (by omega), e1, pp_sA_n (by omega)]
    by_cases e : j = nh
    · rw [if_pos ⟨rfl, e⟩, if_pos e]
    · rw [if_neg (fun z => e z.2), if_neg e]
  have aO : ∀ k, k ≠ 11 → k ≠ 12 → c2.2.2.1 k = m.2.2.1 k := by
    intro k h1 h2
    rw [e2, pp_sA_f h2, e1, pp_sA_f h1]
  have aI : c2.1 = m.1 := by rw [e2, e1]; rfl
  refine hh_lp1_i (fun b σ => ∃ j, j ≤ 24 ∧ b = nI j ∧ σ.1 = m.1 ∧ (∀ k, k ≠ 13 → σ.2.2.1 k = c2.2.2.1 k) ∧ (∀ i, i < j → hh_a σ 13 (24 * nh + i) = 0) ∧ (∀ p, p < 24 * nh → hh_a σ 13 p = hh_a m 13 p)) (fun b σ => 24 - b.toNatClampNeg) ?_ ⟨0, by omega, rfl, aI, fun _ _ => rfl, fun i hi => absurd hi (Nat.not_lt_zero i), fun p _ => congrFun (aO 13 (by omega) (by omega)) p⟩
  rintro K b σ ⟨j, hj, rfl, hI, hO, hV, hP⟩ hK
  unfold wq_X9_hand_34
  have n2 : hh_I σ 13 = nI nh := by show σ.1 13 = _; rw [hI]; exact hn
  rw [show (24 : Int32) = nI 24 from rfl, n2, pp_idx]
  refine pp_c _ (pp_le (by omega) (by omega)) (fun e => ?_) (fun e => ?_)
  · have e : j = 24 := by omega
    subst e
    rintro σ2 rfl
    have e0 : hh_I (hh_uI σ 13 (nI nh + 1)) 13 - 1 = nI nh := by
      show (nI nh + 1 : Int32) - 1 = _
      rw [show nI nh + 1 = nI (nh + 1) from nI_1 nh]
      exact nI_pred nh
    rw [e0]
    refine q _ ?_ ?_ ?_ ?_ ?_ ?_ ?_
    · intro k h1
      show (if k = 13 then _ else σ.1 k) = _
      rw [if_neg h1, hI]
    · exact nI_1 nh
    · intro k h1 h2 h3
      exact (hO k h3).trans (aO k h1 h2)
    · intro j
      exact (congrFun (hO 11 (by omega)) j).trans (a26 j)
    · intro j
      exact (congrFun (hO 12 (by omega)) j).trans (a27 j)
    · exact hV
    · exact hP
  · refine ⟨pp_in (by omega) (by omega), ?_⟩
    intro σ5 e5
    rw [show (1 : Int32) = nI 1 from rfl, nI_add]
    refine hK _ _ ⟨j + 1, by omega, rfl, by rw [e5]; exact hI, fun k h1 => by rw [e5, pp_sA_f h1]; exact hO k h1, fun i hi => ?_, fun p hp => ?_⟩ (by rw [pp_cl (by omega), pp_cl (by omega)]; omega)
    · rw [e5, pp_sA_a (by omega)]
      by_cases e6 : i = j
      · rw [if_pos ⟨rfl, by omega⟩]
      · rw [if_neg (fun z => e6 (by omega))]
        exact hV i (by omega)
    · rw [e5, pp_sA_a (by omega), if_neg (fun z => by omega)]
      exact hP p hp
theorem ps_hand : RR_i wp_X8_hand wp_X9_hand := by
  rintro c m ⟨sn, ns, ni, nh, R1, RC, R7, R8, R9⟩
  have R : RR_s c m := ⟨sn, ns, ni, nh, R1, RC, R7, R8, R9⟩
  obtain ⟨h10, f1, f2, f3⟩ := RC.2.2.1
  have h24 := RC.2.1.1
  unfold wp_X8_hand
  show (c.1 320 < 10 → _) ∧ (¬ c.1 320 < 10 → _)
  rw [f1, show (10 : Int32) = nI 10 from rfl]
  refine pp_c _ (pp_lt (by omega) (by omega)) (fun e => ?_) (fun e => ?_)
  · refine s0_add f1 e ?_
    intro c' cI cN cO c26 c27 cV
    refine s9_hand f2 e ?_
    intro m' mI mN mO m11 m12 mV mP
    refine ⟨rfl, sn, ns, ni, nh + 1, rr_1_e (c := c) (m := m) (cI _ (by omega)) (mI _ (by omega)) (cO _ (by omega) (by omega) (by omega)) (mO _ (by omega) (by omega) (by omega)) R1, ⟨?_, ?_, ⟨by omega, cN, mN, ?_⟩, ?_, ?_⟩, rr_7_e (c := c) (m := m) (cO _ (by omega) (by omega) (by omega)) (cO _ (by omega) (by omega) (by omega)) (mO _ (by omega) (by omega) (by omega)) (mO _ (by omega) (by omega) (by omega)) R7, ?_, rr_9_e (c := c) (m := m) h24 (mI _ (by omega)) (mI _ (by omega)) (mO _ (by omega) (by omega) (by omega)) (mO _ (by omega) (by omega) (by omega)) (mO _ (by omega) (by omega) (by omega)) (mO _ (by omega) (by omega) (by omega)) (mO _ (by omega) (by omega) (by omega)) (cO _ (by omega) (by omega) (by omega)) (fun i hi => cO _ (by omega) (by omega) (by omega)) R9⟩
    · have r := RC.1
      unfold rr_2 hh_a at r ⊢
      rw [cI 128 (by omega), mI 2 (by omega), cO 11 (by omega) (by omega) (by omega), cO 12 (by omega) (by omega) (by omega), cO 13 (by omega) (by omega) (by omega), cO 14 (by omega) (by omega) (by omega), mO 2 (by omega) (by omega) (by omega), mO 3 (by omega) (by omega) (by omega), mO 4 (by omega) (by omega) (by omega), mO 5 (by omega) (by omega) (by omega)]
      exact r
    · have r := RC.2.1
      unfold rr_3 hh_a at r ⊢
      rw [cI 256 (by omega), mI 7 (by omega), cO 20 (by omega) (by omega) (by omega), cO 21 (by omega) (by omega) (by omega), cO 22 (by omega) (by omega) (by omega), cO 23 (by omega) (by omega) (by omega), cO 24 (by omega) (by omega) (by omega), cO 25 (by omega) (by omega) (by omega), mO 3 (by omega) (by omega) (by omega), mO 6 (by omega) (by omega) (by omega), mO 7 (by omega) (by omega) (by omega), mO 8 (by omega) (by omega) (by omega), mO 9 (by omega) (by omega) (by omega), mO 10 (by omega) (by omega) (by omega)]
      exact r
    · intro h hh
      rw [c26, c27, m11, m12]
      by_cases e1 : h = nh
      · rw [if_pos e1, if_pos e1, if_pos e1, if_pos e1]
        exact ⟨rfl, Or.inl rfl, rfl, Or.inl rfl⟩
      · rw [if_neg e1, if_neg e1, if_neg e1, if_neg e1]
        exact f3 h (by omega)
    · intro h hh
      by_cases e1 : h = nh
      · subst e1
        exact ⟨fun i hi => Or.inl ⟨mV i (by omega), cV i (by omega)⟩, fun i hi hj => cV i hj⟩
      · have r := RC.2.2.2.1 h (by omega)
        refine ⟨fun i hi => ?_, fun i hi hj => ?_⟩
        · rw [mP _ (by omega), show hh_a c' 22 i = hh_a c 22 i from congrFun (cO 22 (by omega) (by omega) (by omega)) i, show hh_a c' (45 + h) i = hh_a c (45 + h) i from congrFun (cO _ (by omega) (by omega) (by omega)) i]
          exact r.1 i hi
        · rw [show hh_a c' (45 + h) i = hh_a c (45 + h) i from congrFun (cO _ (by omega) (by omega) (by omega)) i]
          exact r.2 i hi hj
    · have r := RC.2.2.2.2
      unfold rr_6 hh_a at r ⊢
      rw [cO 29 (by omega) (by omega) (by omega), mO 14 (by omega) (by omega) (by omega)]
      exact r
    · have r := rr_8_e (c := c) (m := m) (c' := c') (m' := m') (cI 9 (by omega)) (mI 20 (by omega)) (mI 21 (by omega)) (mI 22 (by omega)) (mO 18 (by omega) (by omega) (by omega)) (fun h hh => cO _ (by omega) (by omega) (by omega)) h10 R8
      rcases r with r | ⟨q, ji, jh, a1, a2, a3⟩
      · exact Or.inl r
      · exact Or.inr ⟨q, ji, jh, a1, by omega, a3⟩
  · unfold wp_X9_hand
    show (¬ m.1 13 = 10 → _) ∧ (m.1 13 = 10 → _)
    rw [f2, show (10 : Int32) = nI 10 from rfl]
    exact pp_nc _ (pp_eq (by omega) (by omega)) (fun z => absurd (by omega) z) (fun _ => ⟨rfl, R⟩)
