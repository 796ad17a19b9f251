/-! ===== counting loops ===== -/
theorem pp_cloop {N : Nat} {p : Nat → Bool} {σ0 : hh_S} {F : (Int32 → Int32 → hh_S → Prop) → Int32 → Int32 → hh_S → Prop} (hN : N < 2147483647) (hx : ∀ K, F K (nI (fb_ct p N)) (nI N) σ0) (hs : ∀ K j, j < N → (∀ b : Bool, p j = b → K (nI (fb_ct p j) + pp_i b) (nI j + 1) σ0) → F K (nI (fb_ct p j)) (nI j) σ0) : ∃ n, hh_lp2 F n 0 0 σ0 := by
  refine hh_lp2_i (fun a b σ => ∃ j, j ≤ N ∧ b = nI j ∧ a = nI (fb_ct p j) ∧ σ0 = σ) (fun a b σ => N - b.toNatClampNeg) ?_ ⟨0, Nat.zero_le _, rfl, rfl, rfl⟩
  rintro K a b σ ⟨j, hj, rfl, rfl, rfl⟩ hK
  by_cases e : j = N
  · subst e
    exact hx K
  · refine hs K j (by omega) (fun b hb => ?_)
    have s1 : nI j + 1 = nI (j + 1) := nI_1 j
    rw [s1]
    refine hK _ _ _ ⟨j + 1, by omega, rfl, ?_, rfl⟩ (by rw [pp_cl (by omega), pp_cl (by omega)]; omega)
    cases b
    · exact pp_ct_f hb
    · exact pp_ct_t hb
theorem pp_cl_go {p : Nat → Bool} {j : Nat} {x : Int32} {K : Int32 → Int32 → hh_S → Prop} {y : Int32} {σ : hh_S} (h : ∀ b : Bool, p j = b → K (x + pp_i b) y σ) : (pp_i (p j) = 0 → (∀ v : Int32, v = (x + 0) → K v y σ)) ∧ (¬ pp_i (p j) = 0 → (∀ v : Int32, v = (x + 1) → K v y σ)) := by
  refine pp_bz (fun e => ?_) (fun e => ?_)
  · rintro v rfl
    exact h false e
  · rintro v rfl
    exact h true e
def mm_tk (m : hh_S) (h i : Nat) : Bool := mm_cnt m h i && decide (¬ hh_a m 8 i < 0)
def mm_rt (m : hh_S) (h i : Nat) : Bool := mm_tk m h i && decide (hh_a m 13 (24 * h + i) = hh_a m 8 i + 1)
theorem rr_kn {ns ni nh i : Nat} {c m : hh_S} (R : rr_C ns ni nh c m) (hi : i < ni) : hh_a c 23 i = hh_a m 8 i ∧ ((hh_a m 8 i = -6 ∧ hh_a m 8 i < 0) ∨ ∃ k, k < 4 ∧ hh_a m 8 i = nI k ∧ ¬ hh_a m 8 i < 0) := by
  obtain ⟨st, L, -, -, q3, -, -, -, -, -, q9, -, -, q12, -⟩ := R.2.1.2.2.2 i hi
  refine ⟨q9, ?_⟩
  rcases q12 with q | ⟨k, hk, q⟩
  · exact Or.inl ⟨q, by rw [q]; decide⟩
  · exact Or.inr ⟨k, by omega, q, by rw [q]; exact pp_p0 (by omega)⟩
theorem s8_isToKnown {ns ni nh h i : Nat} {c m : hh_S} {Q : Int32 → hh_S → Prop} (R : rr_C ns ni nh c m) (hh : h < nh) (hi : i < ni) (q : Q (pp_i (mm_tk m h i)) c) : wp_X8_isToKnown (nI h) (nI i) c Q := by
  have h24 := R.2.1.1
  obtain ⟨k1, k2⟩ := rr_kn R hi
  unfold wp_X8_isToKnown
  refine s0_counts R hh hi ?_
  unfold mm_tk at q
  refine pp_bz (fun e => ?_) (fun e => ⟨pp_in (by omega) (by omega), ?_⟩)
  · rw [e, Bool.false_and] at q
    exact q
  · rw [e, Bool.true_and] at q
    rw [pp_rA (by omega), k1]
    rcases k2 with ⟨k2, k3⟩ | ⟨k, hk, k2, k3⟩
    · rw [decide_eq_false (fun z => z k3)] at q
      exact pp_t k2 q
    · rw [decide_eq_true k3] at q
      exact pp_f (by rw [k2]; exact pp_n6 (by omega)) q
theorem s8_isRight {ns ni nh h i : Nat} {c m : hh_S} {Q : Int32 → hh_S → Prop} (R : rr_C ns ni nh c m) (hh : h < nh) (hi : i < ni) (q : Q (pp_i (mm_rt m h i)) c) : wp_X8_isRight (nI h) (nI i) c Q := by
  have h24 := R.2.1.1
  have h10 := R.2.2.1.1
  obtain ⟨k1, k2⟩ := rr_kn R hi
  unfold wp_X8_isRight
  refine s8_isToKnown R hh hi ?_
  unfold mm_rt at q
  refine pp_bz (fun e => ?_) (fun e => ⟨pp_in (by omega) (by omega), pp_in (by omega) (by omega), pp_in (by omega) (by omega), ?_⟩)
  · rw [e, Bool.false_and] at q
    exact q
  · rw [e, Bool.true_and] at q
    rw [pp_cl (by omega), pp_rA (by omega), pp_rA (by omega), k1]
    unfold mm_tk mm_cnt at e
    rw [Bool.and_eq_true, Bool.and_eq_true] at e
    have e1 := of_decide_eq_true e.1.2
    have e2 := of_decide_eq_true e.2
    rcases k2 with ⟨-, k3⟩ | ⟨k, hk, k2, -⟩
    · exact absurd k3 e2
    · rcases (R.2.2.2.1 h hh).1 i hi with ⟨b1, b2⟩ | ⟨k', L, -, hk', hL, b1, b2⟩
      · exact absurd (by rw [b1]; decide) e1
      · rw [b1, k2, show nI k + 1 = nI (k + 1) from nI_1 k] at q
        rw [b2, k2]
        by_cases z : k' = k
        · rw [decide_eq_true (by rw [z])] at q
          exact pp_nt (by rw [z]) q
        · rw [decide_eq_false (fun w => z (by have := (pp_eq (by omega) (by omega)).mp w; omega))] at q
          exact pp_nf (fun w => z ((pp_eq (by omega) (by omega)).mp w)) q
theorem s8_answersOf {ns ni nh h : Nat} {c m : hh_S} {Q : Int32 → hh_S → Prop} (R : rr_C ns ni nh c m) (hh : h < nh) (q : Q (nI (fb_ct (mm_cnt m h) ni)) c) : wp_X8_answersOf (nI h) c Q := by
  have h24 := R.2.1.1
  have hn := R.2.1.2.1
  unfold wp_X8_answersOf
  refine pp_cloop (N := ni) (p := mm_cnt m h) (by omega) (fun K => ?_) (fun K j hj go => ?_)
  · unfold wq_X8_answersOf_4
    show (c.1 256 ≤ _ → _) ∧ (¬ c.1 256 ≤ _ → _)
    rw [hn]
    exact pp_t ((pp_le (by omega) (by omega)).mpr (Nat.le_refl _)) q
  · unfold wq_X8_answersOf_4
    show (c.1 256 ≤ _ → _) ∧ (¬ c.1 256 ≤ _ → _)
    rw [hn]
    exact pp_f (fun z => by have := (pp_le (by omega) (by omega)).mp z; omega) (s0_counts R hh hj (pp_cl_go go))
theorem s8_answersToKnown {ns ni nh h : Nat} {c m : hh_S} {Q : Int32 → hh_S → Prop} (R : rr_C ns ni nh c m) (hh : h < nh) (q : Q (nI (fb_ct (mm_tk m h) ni)) c) : wp_X8_answersToKnown (nI h) c Q := by
  have h24 := R.2.1.1
  have hn := R.2.1.2.1
  unfold wp_X8_answersToKnown
  refine pp_cloop (N := ni) (p := mm_tk m h) (by omega) (fun K => ?_) (fun K j hj go => ?_)
  · unfold wq_X8_answersToKnown_4
    show (c.1 256 ≤ _ → _) ∧ (¬ c.1 256 ≤ _ → _)
    rw [hn]
    exact pp_t ((pp_le (by omega) (by omega)).mpr (Nat.le_refl _)) q
  · unfold wq_X8_answersToKnown_4
    show (c.1 256 ≤ _ → _) ∧ (¬ c.1 256 ≤ _ → _)
    rw [hn]
    exact pp_f (fun z => by have := (pp_le (by omega) (by omega)).mp z; omega) (s8_isToKnown R hh hj (pp_cl_go go))
theorem s8_rightOf {ns ni nh h : Nat} {c m : hh_S} {Q : Int32 → hh_S → Prop} (R : rr_C ns ni nh c m) (hh : h < nh) (q : Q (nI (fb_ct (mm_rt m h) ni)) c) : wp_X8_rightOf (nI h) c Q := by
  have h24 := R.2.1.1
  have hn := R.2.1.2.1
  unfold wp_X8_rightOf
  refine pp_cloop (N := ni) (p := mm_rt m h) (by omega) (fun K => ?_) (fun K j hj go => ?_)
  · unfold wq_X8_rightOf_4
    show (c.1 256 ≤ _ → _) ∧ (¬ c.1 256 ≤ _ → _)
    rw [hn]
    exact pp_t ((pp_le (by omega) (by omega)).mpr (Nat.le_refl _)) q
  · unfold wq_X8_rightOf_4
    show (c.1 256 ≤ _ → _) ∧ (¬ c.1 256 ≤ _ → _)
    rw [hn]
    exact pp_f (fun z => by have := (pp_le (by omega) (by omega)).mp z; omega) (s8_isRight R hh hj (pp_cl_go go))
theorem s9_answersBy {ns ni nh h : Nat} {c m : hh_S} {Q : Int32 → hh_S → Prop} (R : rr_C ns ni nh c m) (hh : h < nh) (q : Q (nI (fb_ct (mm_cnt m h) ni)) m) : wp_X9_answersBy (nI h) m Q := by
  have h24 := R.2.1.1
  have h10 := R.2.2.1.1
  have hn := R.2.1.2.2.1
  unfold wp_X9_answersBy
  refine pp_cloop (N := ni) (p := mm_cnt m h) (by omega) (fun K => ?_) (fun K j hj go => ?_)
  · unfold wq_X9_answersBy_4
    show (m.1 7 ≤ _ → _) ∧ (¬ m.1 7 ≤ _ → _)
    rw [hn]
    exact pp_t ((pp_le (by omega) (by omega)).mpr (Nat.le_refl _)) q
  · unfold wq_X9_answersBy_4
    show (m.1 7 ≤ _ → _) ∧ (¬ m.1 7 ≤ _ → _)
    rw [hn]
    exact pp_f (fun z => by have := (pp_le (by omega) (by omega)).mp z; omega) (s9_counts (by omega) (by omega) (pp_cl_go go))
theorem s9_knownBy {ns ni nh h : Nat} {c m : hh_S} {Q : Int32 → hh_S → Prop} (R : rr_C ns ni nh c m) (hh : h < nh) (q : Q (nI (fb_ct (mm_tk m h) ni)) m) : wp_X9_knownBy (nI h) m Q := by
  have h24 := R.2.1.1
  have h10 := R.2.2.1.1
  have hn := R.2.1.2.2.1
  unfold wp_X9_knownBy
  refine pp_cloop (N := ni) (p := mm_tk m h) (by omega) (fun K => ?_) (fun K j hj go => ?_)
  · unfold wq_X9_knownBy_4
    show (m.1 7 ≤ _ → _) ∧ (¬ m.1 7 ≤ _ → _)
    rw [hn]
    exact pp_t ((pp_le (by omega) (by omega)).mpr (Nat.le_refl _)) q
  · unfold wq_X9_knownBy_4
    show (m.1 7 ≤ _ → _) ∧ (¬ m.1 7 ≤ _ → _)
    rw [hn]
    refine pp_f (fun z => by have := (pp_le (by omega) (by omega)).mp z; omega) ⟨pp_in (by omega) (by omega), ?_⟩
    rw [pp_rA (by omega)]
    by_cases e : hh_a m 8 j < 0
    · refine pp_t e ?_
      rintro v rfl
      exact go false (by unfold mm_tk; rw [decide_eq_false (fun z => z e), Bool.and_false])
    · refine pp_f e (s9_counts (by omega) (by omega) ?_)
      have := pp_cl_go go
      rw [show mm_tk m h j = mm_cnt m h j by unfold mm_tk; rw [decide_eq_true e, Bool.and_true]] at this
      exact this
theorem s9_rightBy {ns ni nh h : Nat} {c m : hh_S} {Q : Int32 → hh_S → Prop} (R : rr_C ns ni nh c m) (hh : h < nh) (q : Q (nI (fb_ct (mm_rt m h) ni)) m) : wp_X9_rightBy (nI h) m Q := by
  have h24 := R.2.1.1
  have h10 := R.2.2.1.1
  have hn := R.2.1.2.2.1
  unfold wp_X9_rightBy
  refine pp_cloop (N := ni) (p := mm_rt m h) (by omega) (fun K => ?_) (fun K j hj go => ?_)
  · unfold wq_X9_rightBy_4
    show (m.1 7 ≤ _ → _) ∧ (¬ m.1 7 ≤ _ → _)
    rw [hn]
    exact pp_t ((pp_le (by omega) (by omega)).mpr (Nat.le_refl _)) q
  · unfold wq_X9_rightBy_4
    show (m.1 7 ≤ _ → _) ∧ (¬ m.1 7 ≤ _ → _)
    rw [hn]
    refine pp_f (fun z => by have := (pp_le (by omega) (by omega)).mp z; omega) ⟨pp_in (by omega) (by omega), ?_⟩
    rw [pp_rA (by omega)]
    by_cases e : hh_a m 8 j < 0
    · refine pp_t e ?_
      rintro v rfl
      exact go false (by unfold mm_rt mm_tk; rw [decide_eq_false (fun z => z e), Bool.and_false, Bool.false_and])
    · refine pp_f e (s9_counts (by omega) (by omega) ?_)
      refine pp_bz (fun e2 => ?_) (fun e2 => ?_)
      · rintro v rfl
        exact go false (by unfold mm_rt mm_tk; rw [e2, Bool.false_and, Bool.false_and])
      · unfold wp_X9_isRight
        rw [show (24 : Int32) = nI 24 from rfl, pp_idx, pp_rA (by omega), pp_rA (by omega)]
        refine ⟨pp_in (by omega) (by omega), pp_in (by omega) (by omega), ?_⟩
        have T : mm_rt m h j = decide (hh_a m 13 (24 * h + j) = hh_a m 8 j + 1) := by
          unfold mm_rt mm_tk
          rw [e2, decide_eq_true e, Bool.true_and, Bool.true_and]
        by_cases e3 : hh_a m 13 (24 * h + j) = hh_a m 8 j + 1
        · refine pp_nt e3 (pp_f (by decide) ?_)
          rintro v rfl
          exact go true (by rw [T]; exact decide_eq_true e3)
        · refine pp_nf e3 (pp_t rfl ?_)
          rintro v rfl
          exact go false (by rw [T]; exact decide_eq_false e3)
theorem pp_toInt (k : Nat) {y : Int32} (hk : k < 2147483648) : y.toInt = (k : Int) ↔ y = nI k := ⟨fun h => by rw [fa_eq, nI_toInt hk]; exact h, fun h => by rw [h]; exact nI_toInt hk⟩
theorem ps_right (x y : Int32) : RR_i (wp_X8_right x y) (wp_X9_right x y) := by
  rintro c m ⟨sn, ns, ni, nh, R1, RC, R7, R8, R9⟩
  have R : RR_s c m := ⟨sn, ns, ni, nh, R1, RC, R7, R8, R9⟩
  obtain ⟨h10, f1, f2, f3⟩ := RC.2.2.1
  unfold wp_X8_right
  refine s0_has f1 h10 ?_
  cases e : pp_ix x nh
  · refine pp_nt rfl ?_
    unfold wp_X9_right
    refine s9_isHand f2 h10 ?_
    rw [e]
    exact pp_nt rfl ⟨rfl, R⟩
  · refine pp_nf (by decide) ?_
    obtain ⟨h, hh, rfl⟩ := pp_ix_t e (by omega)
    have I : vp_in (nI h) 10 := pp_in (by omega) (by omega)
    have c0 : y.toInt = 0 ↔ y = 0 := pp_toInt 0 (by omega)
    have c1 : y.toInt = 1 ↔ y = 1 := pp_toInt 1 (by omega)
    have c2 : y.toInt = 2 ↔ y = 2 := pp_toInt 2 (by omega)
    have c3 : y.toInt = 3 ↔ y = 3 := pp_toInt 3 (by omega)
    have M : ∀ Q : Int32 → hh_S → Prop, (y = 0 → Q (nI (fb_ct (mm_cnt m h) ni)) m) → (y = 1 → Q (nI (fb_ct (mm_tk m h) ni)) m) → (y = 2 → Q (nI (fb_ct (mm_rt m h) ni)) m) → (y = 3 → Q (hh_a m 12 h) m) → (¬ y = 0 → ¬ y = 1 → ¬ y = 2 → ¬ y = 3 → Q (-2) m) → wp_X9_right (nI h) y m Q := by
      intro Q q0 q1 q2 q3 q4
      unfold wp_X9_right
      refine s9_isHand f2 h10 ?_
      rw [e]
      refine pp_nf (by decide) ⟨fun z0 => ⟨fun z1 => ⟨fun z2 => ⟨fun z3 => q4 z0 z1 z2 z3, fun z3 => ⟨I, ?_⟩⟩, fun z2 => s9_rightBy RC hh (q2 z2)⟩, fun z1 => s9_knownBy RC hh (q1 z1)⟩, fun z0 => s9_answersBy RC hh (q0 z0)⟩
      rw [pp_rA (by omega)]
      exact q3 z3
    refine ⟨fun z => s8_answersOf RC hh (M _ ?_ ?_ ?_ ?_ ?_), fun z => s8_answersToKnown RC hh (M _ ?_ ?_ ?_ ?_ ?_), fun z => s8_rightOf RC hh (M _ ?_ ?_ ?_ ?_ ?_), fun z => ⟨I, M _ ?_ ?_ ?_ ?_ ?_⟩, fun z => M _ ?_ ?_ ?_ ?_ ?_⟩
    all_goals first | exact fun _ => ⟨rfl, R⟩ | skip
    all_goals first | (intro w; exfalso; have w0 := c0.mpr; have w1 := c1.mpr; have w2 := c2.mpr; have w3 := c3.mpr; first | (have := w0 w; omega) | (have := w1 w; omega) | (have := w2 w; omega) | (have := w3 w; omega)) | skip
    all_goals first | (intro n0 n1 n2 n3; exact ⟨rfl, R⟩) | (intro n0 n1 n2 n3; exfalso; first | exact n0 (c0.mp z) | exact n1 (c1.mp z) | exact n2 (c2.mp z) | exact n3 (c3.mp z)) | skip
    intro _
    rw [pp_rA (by omega)]
    exact ⟨(f3 h hh).2.2.1, R⟩
