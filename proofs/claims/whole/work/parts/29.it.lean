/-! ===== item ===== -/
theorem s1_add {ni : Nat} {x1 x2 x3 : Int32} {c : hh_S} {Q : Int32 → hh_S → Prop} (hn : c.1 256 = nI ni) (hk : ni < 24) (q : ∀ c' : hh_S, (∀ k, k ≠ 256 → c'.1 k = c.1 k) → c'.1 256 = nI (ni + 1) → (∀ k, k < 20 ∨ 25 < k → c'.2.2.1 k = c.2.2.1 k) → (∀ j, hh_a c' 20 j = if j = ni then x1 else hh_a c 20 j) → (∀ j, hh_a c' 21 j = if j = ni then x2 else hh_a c 21 j) → (∀ j, hh_a c' 22 j = if j = ni then x3 else hh_a c 22 j) → (∀ j, hh_a c' 23 j = if j = ni then -6 else hh_a c 23 j) → (∀ j, hh_a c' 24 j = if j = ni then -6 else hh_a c 24 j) → (∀ j, hh_a c' 25 j = if j = ni then 0 else hh_a c 25 j) → Q (nI ni) c') : wp_X1_add x1 x2 x3 c Q := by
  unfold wp_X1_add
  intro v hv
  have hv : v = nI ni := hv.trans hn
  subst hv
  have I : vp_in (nI ni) 24 := pp_in hk (by omega)
  refine ⟨I, ?_⟩
  intro c1 e1
  refine ⟨I, ?_⟩
  intro c2 e2
  refine ⟨I, ?_⟩
  intro c3 e3
  refine ⟨I, ?_⟩
  intro c4 e4
  refine ⟨I, ?_⟩
  intro c5 e5
  refine ⟨I, ?_⟩
  intro c6 e6
  intro c7 e7
  have i6 : c6.1 = c.1 := by rw [e6, e5, e4, e3, e2, e1]; rfl
  have a7 : c7.2 = c6.2 := by rw [e7]; rfl
  have pt : ∀ (j : Nat) (x : Int32) (b : Nat) (σ : hh_S), hh_a (hh_sA σ b (nI ni) x) b j = if j = ni then x else hh_a σ b j := by
    intro j x b σ
    rw [pp_sA_a (by omega)]
    by_cases e : j = ni
    · rw [if_pos ⟨rfl, e⟩, if_pos e]
    · rw [if_neg (fun z => e z.2), if_neg e]
  refine q c7 ?_ ?_ ?_ ?_ ?_ ?_ ?_ ?_ ?_
  · intro k hk
    rw [e7]
    show (if k = 256 then _ else c6.1 k) = _
    rw [if_neg hk, i6]
  · rw [e7]
    show (c6.1 256 + 1 : Int32) = _
    rw [i6, hn]
    exact nI_1 ni
  · intro k hk
    rw [a7, e6, pp_sA_f (by omega), e5, pp_sA_f (by omega), e4, pp_sA_f (by omega), e3, pp_sA_f (by omega), e2, pp_sA_f (by omega), e1, pp_sA_f (by omega)]
  · intro j
    show c7.2.2.1 20 j = _
    rw [a7, e6, pp_sA_f (by omega), e5, pp_sA_f (by omega), e4, pp_sA_f (by omega), e3, pp_sA_f (by omega), e2, pp_sA_f (by omega), e1]
    exact pt j x1 20 c
  · intro j
    show c7.2.2.1 21 j = _
    rw [a7, e6, pp_sA_f (by omega), e5, pp_sA_f (by omega), e4, pp_sA_f (by omega), e3, pp_sA_f (by omega), e2]
    refine (pt j x2 21 c1).trans ?_
    rw [e1, pp_sA_n (by omega)]
  · intro j
    show c7.2.2.1 22 j = _
    rw [a7, e6, pp_sA_f (by omega), e5, pp_sA_f (by omega), e4, pp_sA_f (by omega), e3]
    refine (pt j x3 22 c2).trans ?_
    rw [e2, pp_sA_n (by omega), e1, pp_sA_n (by omega)]
  · intro j
    show c7.2.2.1 23 j = _
    rw [a7, e6, pp_sA_f (by omega), e5, pp_sA_f (by omega), e4]
    refine (pt j (-6) 23 c3).trans ?_
    rw [e3, pp_sA_n (by omega), e2, pp_sA_n (by omega), e1, pp_sA_n (by omega)]
  · intro j
    show c7.2.2.1 24 j = _
    rw [a7, e6, pp_sA_f (by omega), e5]
    refine (pt j (-6) 24 c4).trans ?_
    rw [e4, pp_sA_n (by omega), e3, pp_sA_n (by omega), e2, pp_sA_n (by omega), e1, pp_sA_n (by omega)]
  · intro j
    show c7.2.2.1 25 j = _
    rw [a7, e6]
    refine (pt j 0 25 c5).trans ?_
    rw [e5, pp_sA_n (by omega), e4, pp_sA_n (by omega), e3, pp_sA_n (by omega), e2, pp_sA_n (by omega), e1, pp_sA_n (by omega)]
theorem s9_item {ns ni nh s t : Nat} {c m : hh_S} {Q : Int32 → hh_S → Prop} (R : rr_C ns ni nh c m) (hs : s < ns) (ht : t < 10) (q1 : ni = 24 → Q (-4) m) (q2 : ni < 24 → fa_first (mm_at m s (nI t)) ni < ni → Q (-5) m) (q : ni < 24 → ¬ fa_first (mm_at m s (nI t)) ni < ni → ∀ m' : hh_S, (∀ k, k ≠ 7 → m'.1 k = m.1 k) → m'.1 7 = nI (ni + 1) → (∀ k, k < 6 ∨ (10 < k ∧ k ≠ 13) → m'.2.2.1 k = m.2.2.1 k) → (∀ j, hh_a m' 6 j = if j = ni then nI s else hh_a m 6 j) → (∀ j, hh_a m' 7 j = if j = ni then nI t else hh_a m 7 j) → (∀ j, hh_a m' 8 j = if j = ni then -6 else hh_a m 8 j) → (∀ j, hh_a m' 9 j = if j = ni then -6 else hh_a m 9 j) → (∀ j, hh_a m' 10 j = if j = ni then 0 else hh_a m 10 j) → (∀ h, h < 10 → hh_a m' 13 (24 * h + ni) = 0) → (∀ h i, h < 10 → i < ni → hh_a m' 13 (24 * h + i) = hh_a m 13 (24 * h + i)) → Q (nI ni) m') : wp_X9_item (nI s) (nI t) m Q := by
  obtain ⟨h24, -, e2, -⟩ := R.2.1
  have h8 := R.1.1
  have hn := R.1.2.2.1
  unfold wp_X9_item
  refine s9_in0 hn (by omega) ?_
  rw [pp_ix_nI hs (by omega)]
  refine pp_nf (by decide) (s9_inT (pp_p0 (by omega)) (by rw [show (9 : Int32) = nI 9 from rfl, pp_lt (by omega) (by omega)]; omega) (pp_nf (by decide) ?_))
  show (¬ m.1 7 = 24 → _) ∧ (m.1 7 = 24 → _)
  rw [e2, show (24 : Int32) = nI 24 from rfl]
  refine pp_nc _ (pp_eq (by omega) (by omega)) (fun e => ?_) (fun e => q1 e)
  refine s9_itemOf R ?_
  refine pp_c _ (pp_fi_neg (by omega)) (fun e3 => ?_) (fun e3 => q2 (by omega) (Classical.not_not.mp e3))
  have q := q (by omega) e3
  have I : vp_in (nI ni) 24 := pp_in (by omega) (by omega)
  have sb : ∀ (σ : hh_S) (P : Int32 → Prop), σ.1 7 = nI ni → P (nI ni) → P (hh_I σ 7) := by
    intro σ P h p
    show P (σ.1 7)
    rw [h]
    exact p
  refine sb m (fun z => vp_in z 24 ∧ _) e2 ⟨I, ?_⟩
  intro m1 e_1
  have e_1 : m1 = hh_sA m 6 (nI ni) (nI s) := by rw [e_1]; show hh_sA m 6 (m.1 7) _ = _; rw [e2]
  have n1 : m1.1 7 = nI ni := by rw [e_1]; exact e2
  refine sb m1 (fun z => vp_in z 24 ∧ _) n1 ⟨I, ?_⟩
  intro m2 e_2
  have e_2 : m2 = hh_sA m1 7 (nI ni) (nI t) := by rw [e_2]; show hh_sA m1 7 (m1.1 7) _ = _; rw [n1]
  have n2 : m2.1 7 = nI ni := by rw [e_2]; exact n1
  refine sb m2 (fun z => vp_in z 24 ∧ _) n2 ⟨I, ?_⟩
  intro m3 e_3
  have e_3 : m3 = hh_sA m2 8 (nI ni) (-6) := by rw [e_3]; show hh_sA m2 8 (m2.1 7) _ = _; rw [n2]
  have n3 : m3.1 7 = nI ni := by rw [e_3]; exact n2
  refine sb m3 (fun z => vp_in z 24 ∧ _) n3 ⟨I, ?_⟩
  intro m4 e_4
  have e_4 : m4 = hh_sA m3 9 (nI ni) (-6) := by rw [e_4]; show hh_sA m3 9 (m3.1 7) _ = _; rw [n3]
  have n4 : m4.1 7 = nI ni := by rw [e_4]; exact n3
  refine sb m4 (fun z => vp_in z 24 ∧ _) n4 ⟨I, ?_⟩
  intro m5 e_5
  have e_5 : m5 = hh_sA m4 10 (nI ni) 0 := by rw [e_5]; show hh_sA m4 10 (m4.1 7) _ = _; rw [n4]
  have i5 : m5.1 = m.1 := by rw [e_5, e_4, e_3, e_2, e_1]; rfl
  have pt : ∀ (j : Nat) (x : Int32) (b : Nat) (σ : hh_S), hh_a (hh_sA σ b (nI ni) x) b j = if j = ni then x else hh_a σ b j := by
    intro j x b σ
    rw [pp_sA_a (by omega)]
    by_cases e : j = ni
    · rw [if_pos ⟨rfl, e⟩, if_pos e]
    · rw [if_neg (fun z => e z.2), if_neg e]
  have p6 : ∀ j, hh_a m5 6 j = if j = ni then nI s else hh_a m 6 j := by
    intro j
    rw [e_5, pp_sA_n (by omega), e_4, pp_sA_n (by omega), e_3, pp_sA_n (by omega), e_2, pp_sA_n (by omega), e_1]
    exact pt j _ 6 m
  have p7 : ∀ j, hh_a m5 7 j = if j = ni then nI t else hh_a m 7 j := by
    intro j
    rw [e_5, pp_sA_n (by omega), e_4, pp_sA_n (by omega), e_3, pp_sA_n (by omega), e_2]
    refine (pt j _ 7 m1).trans ?_
    rw [e_1, pp_sA_n (by omega)]
  have p8 : ∀ j, hh_a m5 8 j = if j = ni then -6 else hh_a m 8 j := by
    intro j
    rw [e_5, pp_sA_n (by omega), e_4, pp_sA_n (by omega), e_3]
    refine (pt j _ 8 m2).trans ?_
    rw [e_2, pp_sA_n (by omega), e_1, pp_sA_n (by omega)]
  have p9 : ∀ j, hh_a m5 9 j = if j = ni then -6 else hh_a m 9 j := by
    intro j
    rw [e_5, pp_sA_n (by omega), e_4]
    refine (pt j _ 9 m3).trans ?_
    rw [e_3, pp_sA_n (by omega), e_2, pp_sA_n (by omega), e_1, pp_sA_n (by omega)]
  have p10 : ∀ j, hh_a m5 10 j = if j = ni then 0 else hh_a m 10 j := by
    intro j
    rw [e_5]
    refine (pt j _ 10 m4).trans ?_
    rw [e_4, pp_sA_n (by omega), e_3, pp_sA_n (by omega), e_2, pp_sA_n (by omega), e_1, pp_sA_n (by omega)]
  have pO : ∀ k, k < 6 ∨ 10 < k → m5.2.2.1 k = m.2.2.1 k := by
    intro k hk
    rw [e_5, pp_sA_f (by omega), e_4, pp_sA_f (by omega), e_3, pp_sA_f (by omega), e_2, pp_sA_f (by omega), e_1, pp_sA_f (by omega)]
  refine hh_lp1_i (fun b σ => ∃ j, j ≤ 10 ∧ b = nI j ∧ σ.1 = m.1 ∧ (∀ k, k ≠ 13 → σ.2.2.1 k = m5.2.2.1 k) ∧ (∀ h, h < j → hh_a σ 13 (24 * h + ni) = 0) ∧ (∀ h i, h < 10 → i < ni → hh_a σ 13 (24 * h + i) = hh_a m 13 (24 * h + i))) (fun b σ => 10 - b.toNatClampNeg) ?_ ⟨0, by omega, rfl, i5, fun _ _ => rfl, fun i hi => absurd hi (Nat.not_lt_zero i), fun h i _ _ => congrFun (pO 13 (by omega)) _⟩
  rintro K b σ ⟨j, hj, rfl, hI, hO, hV, hP⟩ hK
  unfold wq_X9_item_107
  have n2 : hh_I σ 7 = nI ni := by show σ.1 7 = _; rw [hI]; exact e2
  rw [show (24 : Int32) = nI 24 from rfl, show (10 : Int32) = nI 10 from rfl, n2, pp_idx]
  refine pp_c _ (pp_le (by omega) (by omega)) (fun e => ?_) (fun e => ?_)
  · have e : j = 10 := by omega
    subst e
    rintro σ2 rfl
    have e0 : hh_I (hh_uI σ 7 (nI ni + 1)) 7 - 1 = nI ni := by
      show (nI ni + 1 : Int32) - 1 = _
      rw [show nI ni + 1 = nI (ni + 1) from nI_1 ni]
      exact nI_pred ni
    rw [e0]
    refine q _ ?_ ?_ ?_ ?_ ?_ ?_ ?_ ?_ ?_ ?_
    · intro k h1
      show (if k = 7 then _ else σ.1 k) = _
      rw [if_neg h1, hI]
    · exact nI_1 ni
    · intro k h1
      exact (hO k (by omega)).trans (pO k (by omega))
    · intro j
      exact (congrFun (hO 6 (by omega)) j).trans (p6 j)
    · intro j
      exact (congrFun (hO 7 (by omega)) j).trans (p7 j)
    · intro j
      exact (congrFun (hO 8 (by omega)) j).trans (p8 j)
    · intro j
      exact (congrFun (hO 9 (by omega)) j).trans (p9 j)
    · intro j
      exact (congrFun (hO 10 (by omega)) j).trans (p10 j)
    · exact hV
    · exact hP
  · refine ⟨pp_in (by omega) (by omega), ?_⟩
    intro σ5 e5
    rw [show (1 : Int32) = nI 1 from rfl, nI_add]
    refine hK _ _ ⟨j + 1, by omega, rfl, by rw [e5]; exact hI, fun k h1 => by rw [e5, pp_sA_f h1]; exact hO k h1, fun h hh => ?_, fun h i hh hi => ?_⟩ (by rw [pp_cl (by omega), pp_cl (by omega)]; omega)
    · rw [e5, pp_sA_a (by omega)]
      by_cases e6 : h = j
      · rw [if_pos ⟨rfl, by omega⟩]
      · rw [if_neg (fun z => e6 (by omega))]
        exact hV h (by omega)
    · rw [e5, pp_sA_a (by omega), if_neg (fun z => by omega)]
      exact hP h i hh hi
theorem ps_item (x y : Int32) : RR_i (wp_X8_item x y) (wp_X9_item x y) := by
  rintro c m ⟨sn, ns, ni, nh, R1, RC, R7, R8, R9⟩
  have R : RR_s c m := ⟨sn, ns, ni, nh, R1, RC, R7, R8, R9⟩
  obtain ⟨h8, d1, d2, d3⟩ := RC.1
  obtain ⟨h24, e1, e2, e3⟩ := RC.2.1
  have h10 := RC.2.2.1.1
  unfold wp_X8_item
  refine s6_has d1 h8 ?_
  cases e : pp_ix x ns
  · refine pp_nt rfl ?_
    unfold wp_X9_item
    refine s9_in0 d2 (by omega) ?_
    rw [e]
    exact pp_nt rfl ⟨rfl, R⟩
  · refine pp_nf (by decide) ?_
    obtain ⟨s, hs, rfl⟩ := pp_ix_t e (by omega)
    have O : ¬ (¬ y < 0 ∧ ¬ 9 < y) → wp_X9_item (nI s) y m (fun r' m' => (-2 : Int32) = r' ∧ RR_s c m') := by
      intro z
      unfold wp_X9_item
      refine s9_in0 d2 (by omega) ?_
      rw [e]
      exact pp_nf (by decide) (s9_inF z (pp_nt rfl ⟨rfl, R⟩))
    by_cases y0 : y < 0
    · exact pp_t y0 (O (fun z => z.1 y0))
    refine pp_f y0 ?_
    obtain ⟨t, ht, rfl⟩ := nI_of y0
    rw [show (10 : Int32) = nI 10 from rfl]
    refine pp_c _ (pp_lt (by omega) (by omega)) (fun y1 => ?_) (fun y1 => O (fun z => z.2 (by rw [show (9 : Int32) = nI 9 from rfl, pp_lt (by omega) (by omega)]; omega)))
    show (c.1 256 < 24 → _) ∧ (¬ c.1 256 < 24 → _)
    rw [e1, show (24 : Int32) = nI 24 from rfl]
    refine pp_c _ (pp_lt (by omega) (by omega)) (fun e4 => ?_) (fun e4 => s9_item RC hs y1 (fun _ => ⟨rfl, R⟩) (fun z => absurd z e4) (fun z => absurd z e4))
    refine s1_find RC ?_
    refine pp_c _ (pp_fi_6 (by omega)) (fun e5 => ?_) (fun e5 => s9_item RC hs y1 (fun z => absurd e4 (by omega)) (fun _ _ => ⟨rfl, R⟩) (fun _ z => absurd (Classical.not_not.mp e5) z))
    refine ⟨pp_in (by omega) (by omega), ?_⟩
    obtain ⟨g1, g2, g3, g4, L, L2, L4, gL⟩ := d3 s hs
    rw [pp_rA (by omega), g2, gL]
    refine s1_add e1 e4 ?_
    intro c1 cI cN cO c20 c21 c22 c23 c24 c25
    refine s2_startAlike (L := L) e4 (by rw [c22, if_pos rfl]) L2 L4 ?_
    intro c' bI bB bO bV
    refine s9_item RC hs y1 (fun z => absurd e4 (by omega)) (fun _ z => absurd z e5) (fun _ _ => ?_)
    intro m' mI mN mO m6 m7 m8 m9 m10 mZ mP
    have kO : ∀ k, (k < 20 ∨ 25 < k) → k ≠ 55 + ni → c'.2.2.1 k = c.2.2.1 k := fun k h1 h2 => (bO k (by omega)).trans (cO k h1)
    have kI : ∀ k, k ≠ 256 → c'.1 k = c.1 k := fun k h => by rw [bI]; exact cI k h
    have kP : ∀ k j, k < 26 → hh_a c' k j = hh_a c1 k j := fun k j hk => congrFun (bO k (by omega)) j
    refine ⟨rfl, sn, ns, ni + 1, nh, rr_1_e (c := c) (m := m) (kI _ (by omega)) (mI _ (by omega)) (kO _ (by omega) (by omega)) (mO _ (by omega)) R1, ⟨?_, ⟨by omega, by rw [bI]; exact cN, mN, ?_⟩, ?_, ?_, ?_⟩, rr_7_e (c := c) (m := m) (kO _ (by omega) (by omega)) (kO _ (by omega) (by omega)) (mO _ (by omega)) (mO _ (by omega)) R7, ?_, ?_⟩
    · have r := RC.1
      unfold rr_2 hh_a at r ⊢
      rw [kI 128 (by omega), mI 2 (by omega), kO 11 (by omega) (by omega), kO 12 (by omega) (by omega), kO 13 (by omega) (by omega), kO 14 (by omega) (by omega), mO 2 (by omega), mO 3 (by omega), mO 4 (by omega), mO 5 (by omega)]
      exact r
    · intro i hi
      rw [kP 20 i (by omega), kP 21 i (by omega), kP 22 i (by omega), kP 23 i (by omega), kP 24 i (by omega), kP 25 i (by omega), c20, c21, c22, c23, c24, c25, m6, m7, m8, m9, m10]
      by_cases e6 : i = ni
      · rw [if_pos e6, if_pos e6, if_pos e6, if_pos e6, if_pos e6, if_pos e6, if_pos e6, if_pos e6, if_pos e6, if_pos e6, if_pos e6]
        exact ⟨s, L, hs, L2, L4, rfl, rfl, (congrFun (mO 3 (by omega)) s).trans gL, rfl, rfl, rfl, rfl, rfl, Or.inl rfl, Or.inl rfl⟩
      · rw [if_neg e6, if_neg e6, if_neg e6, if_neg e6, if_neg e6, if_neg e6, if_neg e6, if_neg e6, if_neg e6, if_neg e6, if_neg e6]
        obtain ⟨st, L', q1, q2, q3, q4, q5, q6, q7⟩ := e3 i (by omega)
        exact ⟨st, L', q1, q2, q3, q4, q5, (congrFun (mO 3 (by omega)) st).trans q6, q7⟩
    · have r := RC.2.2.1
      unfold rr_4 hh_a at r ⊢
      rw [kI 320 (by omega), mI 13 (by omega), kO 26 (by omega) (by omega), kO 27 (by omega) (by omega), mO 11 (by omega), mO 12 (by omega)]
      exact r
    · intro h hh
      have r := RC.2.2.2.1 h hh
      have kh : ∀ j, hh_a c' (45 + h) j = hh_a c (45 + h) j := fun j => congrFun (kO _ (by omega) (by omega)) j
      refine ⟨fun i hi => ?_, fun i hi hj => by rw [kh]; exact r.2 i (by omega) hj⟩
      by_cases e6 : i = ni
      · subst e6
        exact Or.inl ⟨mZ h (by omega), by rw [kh]; exact r.2 i (by omega) e4⟩
      · rw [kh, mP h i (by omega) (by omega), kP 22 i (by omega), c22, if_neg e6]
        exact r.1 i (by omega)
    · have r := RC.2.2.2.2
      unfold rr_6 hh_a at r ⊢
      rw [kO 29 (by omega) (by omega), mO 14 (by omega)]
      exact r
    · have r := rr_8_e (c := c) (m := m) (c' := c') (m' := m') (kI 9 (by omega)) (mI 20 (by omega)) (mI 21 (by omega)) (mI 22 (by omega)) (mO 18 (by omega)) (fun h hh => kO _ (by omega) (by omega)) h10 R8
      rcases r with r | ⟨q, ji, jh, a1, a2⟩
      · exact Or.inl r
      · exact Or.inr ⟨q, ji, jh, by omega, a2⟩
    · intro i hi l L' h4 hL' hl'
      rw [kP 22 i (by omega), c22] at hL'
      by_cases e6 : i = ni
      · subst e6
        rw [if_pos rfl] at hL'
        have : L = L' := (pp_eq (by omega) (by omega)).mp hL'
        have bv := bV l (by omega)
        rw [show hh_a c' (55 + i) l = 1000000 / nI L from bv]
        unfold mm_sh mm_fix mm_lb
        rw [m8, if_pos rfl, m9, if_pos rfl, m6, if_pos rfl, pp_cl (by omega), show hh_a m' 3 s = nI L from (congrFun (mO 3 (by omega)) s).trans gL, mI 20 (by omega), mI 21 (by omega)]
        rw [if_pos (show (-6 : Int32) < 0 by decide), if_pos (show (-6 : Int32) < 0 by decide)]
        by_cases z : m.1 20 = 0
        · rw [if_pos z]
        · rw [if_neg z]
          rcases R8 with ⟨j1, j2⟩ | ⟨j0, ji, jh, k1, k2, k3, k4⟩
          · exact absurd j1 z
          · rw [k3, if_pos ((pp_le (by omega) (by omega)).mpr (by omega))]
      · rw [if_neg e6] at hL'
        rw [show hh_a c' (55 + i) l = hh_a c (55 + i) l from congrFun (kO _ (by omega) (by omega)) l, R9 i (by omega) l L' h4 hL' hl']
        exact (mm_sh_p (m := m) (m' := m') (mI 20 (by omega)) (mI 21 (by omega)) (mO 3 (by omega)) (by rw [m6, if_neg e6]) (by rw [m8, if_neg e6]) (by rw [m9, if_neg e6]) (mO 17 (by omega))).symm
