/-! ===== small methods of the class ===== -/
theorem s_has {x v : Int32} {k : Nat} {A B : Prop} (hv : v = nI k) (hk : k < 2147483647) (f : pp_ix x k = false → A) (t : pp_ix x k = true → B) : (x < 0 → A) ∧ (¬ x < 0 → ((v ≤ x → A) ∧ (¬ v ≤ x → B))) := by
  subst hv
  cases e : pp_ix x k
  · rcases pp_ix_f e (by omega) with h | h
    · exact pp_t h (f e)
    · by_cases h0 : x < 0
      · exact pp_t h0 (f e)
      · exact pp_f h0 (pp_t h (f e))
  · obtain ⟨j, hj, rfl⟩ := pp_ix_t e (by omega)
    exact pp_f (pp_p0 (by omega)) (pp_f (by rw [pp_le (by omega) (by omega)]; omega) (t e))
theorem s0_has {x : Int32} {nh : Nat} {c : hh_S} {Q : Int32 → hh_S → Prop} (hn : c.1 320 = nI nh) (hk : nh ≤ 10) (h : Q (pp_i (pp_ix x nh)) c) : wp_X0_has x c Q := by
  unfold wp_X0_has
  exact s_has hn (by omega) (fun e => by rw [e] at h; exact h) (fun e => by rw [e] at h; exact h)
theorem s1_has {x : Int32} {ni : Nat} {c : hh_S} {Q : Int32 → hh_S → Prop} (hn : c.1 256 = nI ni) (hk : ni ≤ 24) (h : Q (pp_i (pp_ix x ni)) c) : wp_X1_has x c Q := by
  unfold wp_X1_has
  exact s_has hn (by omega) (fun e => by rw [e] at h; exact h) (fun e => by rw [e] at h; exact h)
theorem s6_has {x : Int32} {ns : Nat} {c : hh_S} {Q : Int32 → hh_S → Prop} (hn : c.1 128 = nI ns) (hk : ns ≤ 8) (h : Q (pp_i (pp_ix x ns)) c) : wp_X6_has x c Q := by
  unfold wp_X6_has
  exact s_has hn (by omega) (fun e => by rw [e] at h; exact h) (fun e => by rw [e] at h; exact h)
theorem s1_hasLabel {i L : Nat} {x : Int32} {ni : Nat} {c : hh_S} {Q : Int32 → hh_S → Prop} (hn : c.1 256 = nI ni) (hk : ni ≤ 24) (hi : i < ni) (hL : hh_a c 22 i = nI L) (hL4 : L ≤ 4) (h : Q (pp_i (pp_ix x L)) c) : wp_X1_hasLabel (nI i) x c Q := by
  unfold wp_X1_hasLabel
  refine s1_has hn hk ?_
  rw [pp_ix_nI hi (by omega)]
  refine pp_f (by decide) ?_
  rw [pp_rA (by omega)]
  have key := s_has (x := x) hL (by omega) (A := Q 0 c) (B := Q 1 c) (fun e => by rw [e] at h; exact h) (fun e => by rw [e] at h; exact h)
  exact ⟨key.1, fun e => ⟨pp_in (by omega) (by omega), key.2 e⟩⟩
theorem s1_hasLabelF {x y : Int32} {ni : Nat} {c : hh_S} {Q : Int32 → hh_S → Prop} (hn : c.1 256 = nI ni) (hk : ni ≤ 24) (hi : pp_ix y ni = false) (h : Q 0 c) : wp_X1_hasLabel y x c Q := by
  unfold wp_X1_hasLabel
  refine s1_has hn hk ?_
  rw [hi]
  exact pp_t rfl h
theorem s0_counts {ns ni nh h i : Nat} {c m : hh_S} {Q : Int32 → hh_S → Prop} (R : rr_C ns ni nh c m) (hh : h < nh) (hi : i < ni) (q : Q (pp_i (mm_cnt m h i)) c) : wp_X0_counts (nI h) (nI i) c Q := by
  have h10 := R.2.2.1.1
  have h24 := R.2.1.1
  obtain ⟨a1, a2, -, -⟩ := R.2.2.1.2.2.2 h hh
  have a5 := (R.2.2.2.1 h hh).1 i hi
  unfold wp_X0_counts
  rw [pp_rA (by omega), pp_rA (by omega), pp_cl (by omega), a1]
  refine ⟨pp_in (by omega) (by omega), ?_⟩
  unfold mm_cnt at q
  by_cases e : hh_a m 11 h = 0
  · refine pp_nt e ⟨pp_in (by omega) (by omega), pp_in (by omega) (by omega), ?_⟩
    rw [decide_eq_true e, Bool.true_and] at q
    rcases a5 with ⟨b1, b2⟩ | ⟨k, L, -, hk, hL, b1, b2⟩
    · rw [b1] at q
      exact pp_t b2 q
    · rw [b1, show decide (¬ nI (k + 1) ≤ 0) = true from decide_eq_true (nI_nle (by omega) (by omega))] at q
      rw [b2]
      exact pp_f (pp_n6 (by omega)) q
  · rw [decide_eq_false e, Bool.false_and] at q
    exact pp_nf e q
theorem s0_countTo {ns ni nh i : Nat} {c m : hh_S} {Q : Int32 → hh_S → Prop} (R : rr_C ns ni nh c m) (hi : i < ni) (q : Q (nI (fb_ct (fun h => mm_cnt m h i) nh)) c) : wp_X0_countTo (nI i) c Q := by
  have h10 := R.2.2.1.1
  have hn := R.2.2.1.2.1
  unfold wp_X0_countTo
  refine hh_lp2_i (fun a b σ => ∃ j, j ≤ nh ∧ b = nI j ∧ a = nI (fb_ct (fun h => mm_cnt m h i) j) ∧ c = σ) (fun a b σ => nh - b.toNatClampNeg) ?_ ⟨0, Nat.zero_le _, rfl, rfl, rfl⟩
  rintro K a b σ ⟨j, hj, rfl, rfl, rfl⟩ hK
  unfold wq_X0_countTo_4
  show (c.1 320 ≤ nI j → _) ∧ (¬ c.1 320 ≤ nI j → _)
  rw [hn]
  refine pp_c _ (pp_le (by omega) (by omega)) (fun e => ?_) (fun e => ?_)
  · have e : j = nh := by omega
    subst e
    exact q
  · refine s0_counts R (by omega) hi ?_
    have s1 : nI j + 1 = nI (j + 1) := nI_1 j
    rw [s1]
    have mu : nh - (nI (j + 1)).toNatClampNeg < nh - (nI j).toNatClampNeg := by rw [pp_cl (by omega), pp_cl (by omega)]; omega
    refine pp_bz (fun e2 => ?_) (fun e2 => ?_)
    · rintro v rfl
      exact hK _ _ _ ⟨j + 1, by omega, rfl, pp_ct_f e2, rfl⟩ mu
    · rintro v rfl
      exact hK _ _ _ ⟨j + 1, by omega, rfl, pp_ct_t e2, rfl⟩ mu
theorem s1_isFree {ns ni nh i : Nat} {c m : hh_S} {Q : Int32 → hh_S → Prop} (R : rr_C ns ni nh c m) (hi : i < ni) (q : Q (pp_i (decide (mm_fix m i < 0))) c) : wp_X1_isFree (nI i) c Q := by
  have h24 := R.2.1.1
  obtain ⟨st, L, -, -, hL, -, -, -, -, -, k1, k2, -, k3, k4⟩ := R.2.1.2.2.2 i hi
  unfold wp_X1_isFree
  rw [pp_rA (by omega), pp_rA (by omega), k1, k2]
  refine ⟨pp_in (by omega) (by omega), ?_⟩
  unfold mm_fix at q
  rcases k3 with k3 | ⟨k, hk, k3⟩
  · rw [k3, if_pos (by decide)] at q
    rw [k3]
    refine pp_nt rfl ⟨pp_in (by omega) (by omega), ?_⟩
    rcases k4 with k4 | ⟨k, hk, k4⟩
    · rw [k4] at q ⊢
      exact pp_nt rfl q
    · rw [k4, decide_eq_false (pp_p0 (by omega))] at q
      rw [k4]
      exact pp_nf (pp_n6 (by omega)) q
  · rw [k3, if_neg (pp_p0 (by omega)), decide_eq_false (pp_p0 (by omega))] at q
    rw [k3]
    exact pp_nf (pp_n6 (by omega)) q
theorem s1_given {ns ni nh i : Nat} {c m : hh_S} {Q : Int32 → hh_S → Prop} (R : rr_C ns ni nh c m) (hi : i < ni) (q : Q (mm_fix m i) c) : wp_X1_given (nI i) c Q := by
  have h24 := R.2.1.1
  obtain ⟨st, L, -, -, hL, -, -, -, -, -, k1, k2, -, k3, k4⟩ := R.2.1.2.2.2 i hi
  unfold wp_X1_given
  rw [pp_rA (by omega), pp_rA (by omega), k1, k2]
  refine ⟨pp_in (by omega) (by omega), ?_⟩
  unfold mm_fix at q
  rcases k3 with k3 | ⟨k, hk, k3⟩
  · rw [k3, if_pos (by decide)] at q
    rw [k3]
    exact pp_t rfl ⟨pp_in (by omega) (by omega), q⟩
  · rw [k3, if_neg (pp_p0 (by omega))] at q
    rw [k3]
    exact pp_f (pp_n6 (by omega)) ⟨pp_in (by omega) (by omega), q⟩
/-- the first ITEM of a STEP and a THING -/
theorem s1_find {ns ni nh s : Nat} {t : Int32} {c m : hh_S} {Q : Int32 → hh_S → Prop} (R : rr_C ns ni nh c m) (q : Q (pp_fi (mm_at m s t) ni) c) : wp_X1_find (nI s) t c Q := by
  have h24 := R.2.1.1
  have hn := R.2.1.2.1
  unfold wp_X1_find
  refine hh_lp1_i (fun b σ => ∃ j, j ≤ ni ∧ b = nI j ∧ (∀ k, k < j → mm_at m s t k = false) ∧ c = σ) (fun b σ => ni - b.toNatClampNeg) ?_ ⟨0, Nat.zero_le _, rfl, fun k hk => absurd hk (Nat.not_lt_zero k), rfl⟩
  rintro K b σ ⟨j, hj, rfl, hf, rfl⟩ hK
  unfold wq_X1_find_2
  show (c.1 256 ≤ nI j → _) ∧ (¬ c.1 256 ≤ nI j → _)
  rw [hn]
  refine pp_c _ (pp_le (by omega) (by omega)) (fun e => ?_) (fun e => ?_)
  · have e : j = ni := by omega
    subst e
    unfold pp_fi at q
    rw [pp_first_none hf, if_neg (by omega)] at q
    exact q
  · obtain ⟨st, L, -, -, -, g1, g2, -, -, g3, -⟩ := R.2.1.2.2.2 j (by omega)
    have s1 : nI j + 1 = nI (j + 1) := nI_1 j
    rw [s1, pp_rA (by omega), pp_rA (by omega), g3, show hh_a c 20 j = hh_a m 6 j from g2.trans g1.symm]
    have mu : ni - (nI (j + 1)).toNatClampNeg < ni - (nI j).toNatClampNeg := by rw [pp_cl (by omega), pp_cl (by omega)]; omega
    have go : mm_at m s t j = false → K (nI (j + 1)) c := fun e2 => hK _ _ ⟨j + 1, by omega, rfl, fun k hk => by
      by_cases e3 : k = j
      · subst e3; exact e2
      · exact hf k (by omega), rfl⟩ mu
    refine ⟨pp_in (by omega) (by omega), ?_⟩
    by_cases e1 : hh_a m 6 j = nI s
    · refine pp_nt e1 ⟨pp_in (by omega) (by omega), ?_⟩
      by_cases e2 : hh_a m 7 j = t
      · refine pp_nt e2 ?_
        unfold pp_fi at q
        rw [pp_first_is (k := j) (by omega) (by unfold mm_at; rw [decide_eq_true e1, decide_eq_true e2]; rfl) hf, if_pos (by omega)] at q
        exact q
      · exact pp_nf e2 (go (by unfold mm_at; rw [decide_eq_false e2, Bool.and_false]))
    · exact pp_nf e1 (go (by unfold mm_at; rw [decide_eq_false e1, Bool.false_and]))
theorem s9_itemOf {ns ni nh s : Nat} {t : Int32} {c m : hh_S} {Q : Int32 → hh_S → Prop} (R : rr_C ns ni nh c m) (q : Q (pp_fi (mm_at m s t) ni) m) : wp_X9_itemOf (nI s) t m Q := by
  have h24 := R.2.1.1
  have hn := R.2.1.2.2.1
  unfold wp_X9_itemOf
  refine hh_lp1_i (fun b σ => ∃ j, j ≤ ni ∧ b = nI j ∧ (∀ k, k < j → mm_at m s t k = false) ∧ m = σ) (fun b σ => ni - b.toNatClampNeg) ?_ ⟨0, Nat.zero_le _, rfl, fun k hk => absurd hk (Nat.not_lt_zero k), rfl⟩
  rintro K b σ ⟨j, hj, rfl, hf, rfl⟩ hK
  unfold wq_X9_itemOf_2
  show (m.1 7 ≤ nI j → _) ∧ (¬ m.1 7 ≤ nI j → _)
  rw [hn]
  refine pp_c _ (pp_le (by omega) (by omega)) (fun e => ?_) (fun e => ?_)
  · have e : j = ni := by omega
    subst e
    unfold pp_fi at q
    rw [pp_first_none hf, if_neg (by omega)] at q
    exact q
  · have s1 : nI j + 1 = nI (j + 1) := nI_1 j
    rw [s1, pp_rA (by omega), pp_rA (by omega)]
    have mu : ni - (nI (j + 1)).toNatClampNeg < ni - (nI j).toNatClampNeg := by rw [pp_cl (by omega), pp_cl (by omega)]; omega
    have go : mm_at m s t j = false → K (nI (j + 1)) m := fun e2 => hK _ _ ⟨j + 1, by omega, rfl, fun k hk => by
      by_cases e3 : k = j
      · subst e3; exact e2
      · exact hf k (by omega), rfl⟩ mu
    refine ⟨pp_in (by omega) (by omega), ?_⟩
    by_cases e1 : hh_a m 6 j = nI s
    · refine pp_nt e1 ⟨pp_in (by omega) (by omega), ?_⟩
      by_cases e2 : hh_a m 7 j = t
      · refine pp_nt e2 ?_
        unfold pp_fi at q
        rw [pp_first_is (k := j) (by omega) (by unfold mm_at; rw [decide_eq_true e1, decide_eq_true e2]; rfl) hf, if_pos (by omega)] at q
        exact q
      · exact pp_nf e2 (go (by unfold mm_at; rw [decide_eq_false e2, Bool.and_false]))
    · exact pp_nf e1 (go (by unfold mm_at; rw [decide_eq_false e1, Bool.false_and]))
