/-! ===== a JOINING, in the class: TABLES and TURNS ===== -/
theorem s2_fillLine {b h L t : Nat} {U : Nat → Nat → Nat → Nat} {c : hh_S} {Q : hh_S → Prop} (hh : h < 10) (L2 : 2 ≤ L) (L4 : L ≤ 4) (ht : t < L) (HU : jc_U b U c) (HB : ∀ s, s < L → 1 ≤ U L t s ∧ U L t s ≤ 25000000) (q : ∀ c' : hh_S, c'.1 = c.1 → c'.2.2.2 = c.2.2.2 → (∀ k, k ≠ 79 + 34 * b + h → c'.2.2.1 k = c.2.2.1 k) → (∀ s, s < L → hh_a c' (79 + 34 * b + h) (16 * (L - 2) + 4 * t + s) = nI (1000 * U L t s / fb_sm (U L t) L)) → (∀ p, (∀ s, s < L → p ≠ 16 * (L - 2) + 4 * t + s) → hh_a c' (79 + 34 * b + h) p = hh_a c (79 + 34 * b + h) p) → Q c') : wp_X2_fillLine b (nI h) (nI L) (nI t) c Q := by
  have up : ∀ j, j ≤ L → fb_sm (U L t) j ≤ 100000000 := by
    intro j hj
    have := fb_sm_bound (f := U L t) (c := 25000000) (n := j) (fun k hk => (HB k (by omega)).2)
    have h2 : j * 25000000 ≤ 4 * 25000000 := Nat.mul_le_mul_right _ (by omega)
    omega
  have lo : 1 ≤ fb_sm (U L t) L := by
    have := fb_sm_part (U L t) (show 0 < L by omega)
    have := (HB 0 (by omega)).1
    omega
  have hi := up L (Nat.le_refl _)
  unfold wp_X2_fillLine
  refine hh_lp2_i (fun x y σ => ∃ j, j ≤ L ∧ y = nI j ∧ x = lN (fb_sm (U L t) j) ∧ c = σ) (fun x y σ => L - y.toNatClampNeg) ?_ ⟨0, by omega, rfl, rfl, rfl⟩
  rintro K x y σ ⟨j, hj, rfl, rfl, rfl⟩ hK
  unfold wq_X2_fillLine_6
  refine pp_c _ (pp_le (by omega) (by omega)) (fun e => ?_) (fun e => s2_spot L2 ⟨pp_in (by omega) (by omega), ?_⟩)
  · have e' : j = L := by omega
    rw [e']
    generalize hA : fb_sm (U L t) L = A at *
    clear hK K hj e e' j
    refine pp_t ((lg_cmp_gt _ _).mpr ((pk_lLT (a := 0) (by omega) (by omega)).mpr (by omega))) ?_
    refine hh_lp1_i (fun x σ => ∃ j, j ≤ L ∧ x = nI j ∧ σ.1 = c.1 ∧ σ.2.2.2 = c.2.2.2 ∧ (∀ k, k ≠ 79 + 34 * b + h → σ.2.2.1 k = c.2.2.1 k) ∧ (∀ s, s < j → hh_a σ (79 + 34 * b + h) (16 * (L - 2) + 4 * t + s) = nI (1000 * U L t s / A)) ∧ (∀ p, (∀ s, s < L → p ≠ 16 * (L - 2) + 4 * t + s) → hh_a σ (79 + 34 * b + h) p = hh_a c (79 + 34 * b + h) p)) (fun x σ => L - x.toNatClampNeg) ?_ ⟨0, by omega, rfl, rfl, rfl, fun _ _ => rfl, fun i hi => absurd hi (Nat.not_lt_zero i), fun _ _ => rfl⟩
    rintro K x σ ⟨j, hj, rfl, hI, hB, hO, hV, hP⟩ hK
    unfold wq_X2_fillLine_46
    refine pp_c _ (pp_le (by omega) (by omega)) (fun e => ?_) (fun e => ⟨pp_in (by omega) (by omega), s2_spot L2 (s2_spot L2 ⟨pp_in (by omega) (by omega), fun z => by have := (pk_lEQ (b := 0) (by omega) (by omega)).mp z; omega, pp_in (by omega) (by omega), ?_⟩)⟩)
    · have e : j = L := by omega
      subst e
      exact q σ hI hB hO hV hP
    · intro σ2 e2
      have u1 := (HB j (by omega)).2
      have rd : hh_b σ (32 + 6 * b) (16 * (L - 2) + 4 * t + j) = lN (U L t j) := by
        have := HU L t j L2 L4 ht (by omega)
        unfold hh_b at this ⊢
        rw [hB]
        exact this
      rw [pp_cl (by omega), pp_rB (by omega), rd, show (1000 : Int64) = lN 1000 from rfl, lN_mul, pk_lDiv (by omega) (by omega) (by omega), lN_i] at e2
      rw [show nI j + 1 = nI (j + 1) from nI_1 j]
      refine hK _ _ ⟨j + 1, by omega, rfl, by rw [e2]; exact hI, by rw [e2]; exact hB, fun k hk => by rw [e2, pp_sA_f hk]; exact hO k hk, fun s hs => ?_, fun p hp => ?_⟩ (by rw [pp_cl (by omega), pp_cl (by omega)]; omega)
      · rw [e2, pp_sA_a (by omega)]
        by_cases z : s = j
        · rw [if_pos ⟨rfl, by omega⟩, z]
        · rw [if_neg (fun y => z (by omega))]
          exact hV s (by omega)
      · rw [e2, pp_sA_a (by omega), if_neg (fun y => hp j (by omega) y.2)]
        exact hP p hp
  · rw [pp_rB (by omega), HU L t j L2 L4 ht (by omega), lN_add, show nI j + 1 = nI (j + 1) from nI_1 j]
    rintro v rfl
    exact hK _ _ _ ⟨j + 1, by omega, rfl, rfl, rfl⟩ (by rw [pp_cl (by omega), pp_cl (by omega)]; omega)
theorem s2_fillTables {b h : Nat} {U : Nat → Nat → Nat → Nat} {c : hh_S} {Q : hh_S → Prop} (hh : h < 10) (HU : jc_U b U c) (HB : ∀ L t s, t < L → s < L → 1 ≤ U L t s ∧ U L t s ≤ 25000000) (q : ∀ c' : hh_S, c'.1 = c.1 → c'.2.2.2 = c.2.2.2 → (∀ k, k ≠ 79 + 34 * b + h → c'.2.2.1 k = c.2.2.1 k) → (∀ L t s, 2 ≤ L → L ≤ 4 → t < L → s < L → hh_a c' (79 + 34 * b + h) (16 * (L - 2) + 4 * t + s) = nI (1000 * U L t s / fb_sm (U L t) L)) → Q c') : wp_X2_fillTables b (nI h) c Q := by
  unfold wp_X2_fillTables
  refine hh_lp1_i (fun x σ => ∃ L, 2 ≤ L ∧ L ≤ 5 ∧ x = nI L ∧ σ.1 = c.1 ∧ σ.2.2.2 = c.2.2.2 ∧ (∀ k, k ≠ 79 + 34 * b + h → σ.2.2.1 k = c.2.2.1 k) ∧ (∀ L' t s, 2 ≤ L' → L' ≤ 4 → L' < L → t < L' → s < L' → hh_a σ (79 + 34 * b + h) (16 * (L' - 2) + 4 * t + s) = nI (1000 * U L' t s / fb_sm (U L' t) L'))) (fun x σ => 5 - x.toNatClampNeg) ?_ ⟨2, by omega, by omega, rfl, rfl, rfl, fun _ _ => rfl, fun L' t s h1 h2 h3 => absurd h3 (by omega)⟩
  rintro K x σ ⟨L, L2, L5, rfl, hI, hB, hO, hV⟩ hK
  unfold wq_X2_fillTables_2
  rw [show (4 : Int32) = nI 4 from rfl]
  refine pp_c _ (pp_lt (by omega) (by omega)) (fun e => ?_) (fun e => ?_)
  · exact q σ hI hB hO (fun L' t s h1 h2 h3 h4 => hV L' t s h1 h2 (by omega) h3 h4)
  · refine hh_lp1_i (fun x σ => ∃ t, t ≤ L ∧ x = nI t ∧ σ.1 = c.1 ∧ σ.2.2.2 = c.2.2.2 ∧ (∀ k, k ≠ 79 + 34 * b + h → σ.2.2.1 k = c.2.2.1 k) ∧ (∀ L' t' s, 2 ≤ L' → L' ≤ 4 → (L' < L ∨ (L' = L ∧ t' < t)) → t' < L' → s < L' → hh_a σ (79 + 34 * b + h) (16 * (L' - 2) + 4 * t' + s) = nI (1000 * U L' t' s / fb_sm (U L' t') L'))) (fun x σ => L - x.toNatClampNeg) ?_ ⟨0, by omega, rfl, hI, hB, hO, fun L' t s h1 h2 h3 h4 h5 => hV L' t s h1 h2 (by omega) h4 h5⟩
    clear hI hB hO hV
    rintro K2 x σ2 ⟨t, ht, rfl, hI, hB, hO, hV⟩ hK2
    unfold wq_X2_fillTables_9
    have HU2 : jc_U b U σ2 := by
      unfold jc_U hh_b
      rw [hB]
      exact HU
    refine pp_c _ (pp_le (by omega) (by omega)) (fun e2 => ?_) (fun e2 => s2_fillLine hh L2 (by omega) (by omega) HU2 (fun s hs => HB L t s (by omega) hs) ?_)
    · rw [show nI L + 1 = nI (L + 1) from nI_1 L]
      exact hK _ _ ⟨L + 1, by omega, by omega, rfl, hI, hB, hO, fun L' t' s h1 h2 h3 h4 h5 => hV L' t' s h1 h2 (by omega) h4 h5⟩ (by rw [pp_cl (by omega), pp_cl (by omega)]; omega)
    · intro c' a1 a2 a3 a4 a5
      rw [show nI t + 1 = nI (t + 1) from nI_1 t]
      refine hK2 _ _ ⟨t + 1, by omega, rfl, a1.trans hI, a2.trans hB, fun k hk => (a3 k hk).trans (hO k hk), fun L' t' s h1 h2 h3 h4 h5 => ?_⟩ (by rw [pp_cl (by omega), pp_cl (by omega)]; omega)
      by_cases z : L' = L ∧ t' = t
      · rw [z.1, z.2]
        exact a4 s (by omega)
      · rw [a5 _ (fun s' hs' => by omega)]
        exact hV L' t' s h1 h2 (by omega) h4 h5
theorem s2_weigh {b h L s : Nat} {T o : Nat → Nat} {c : hh_S} {Q : hh_S → Prop} (hh : h < 10) (L2 : 2 ≤ L) (L4 : L ≤ 4) (hs : s < L) (HO : ∀ l, l < L → hh_b c (33 + 6 * b) l = lN (o l) ∧ o l ≤ 1000000) (HT : ∀ t, t < L → hh_a c (79 + 34 * b + h) (16 * (L - 2) + 4 * t + s) = nI (T t) ∧ T t ≤ 1000) (q : ∀ c' : hh_S, c'.1 = c.1 → c'.2.2.1 = c.2.2.1 → (∀ l, l < L → hh_b c' (33 + 6 * b) l = lN (jg_w T L o l)) → Q c') : wp_X2_weigh b (nI h) (nI L) (nI s) c Q := by
  have ub : ∀ j, j ≤ L → fb_sm (fun k => o k * T k) j ≤ 4000000000 := fun j hj => jg_all_b (fun k hk => (HO k hk).2) (fun k hk => (HT k hk).2) hj L4
  have hw := ub L (Nat.le_refl _)
  unfold wp_X2_weigh
  refine hh_lp2_i (fun x y σ => ∃ j, j ≤ L ∧ y = nI j ∧ x = lN (fb_sm (fun k => o k * T k) j) ∧ σ.1 = c.1 ∧ σ.2.2.1 = c.2.2.1 ∧ (∀ l, l < L → hh_b σ (33 + 6 * b) l = lN (o l)) ∧ (∀ l, l < j → hh_b σ (34 + 6 * b) l = lN (o l * T l))) (fun x y σ => L - y.toNatClampNeg) ?_ ⟨0, by omega, rfl, rfl, rfl, rfl, fun l hl => (HO l hl).1, fun i hi => absurd hi (Nat.not_lt_zero i)⟩
  rintro K x y σ ⟨j, hj, rfl, rfl, hI, hA, hF, hV⟩ hK
  unfold wq_X2_weigh_6
  refine pp_c _ (pp_le (by omega) (by omega)) (fun e => ?_) (fun e => ⟨pp_in (by omega) (by omega), pp_in (by omega) (by omega), s2_spot L2 ⟨pp_in (by omega) (by omega), pp_in (by omega) (by omega), ?_⟩⟩)
  · have e' : j = L := by omega
    rw [e'] at hV ⊢
    clear hK K hj e e' j
    by_cases w : fb_sm (fun k => o k * T k) L = 0
    · rw [w]
      refine pp_f (fun z => ?_) (q σ hI hA (fun l hl => by rw [hF l hl]; unfold jg_w; rw [if_pos w]))
      have := (pk_lLT (a := 0) (b := 0) (by omega) (by omega)).mp ((lg_cmp_gt _ _).mp z)
      omega
    · have wv : ∀ l, jg_w T L o l = o l * T l * 1000000 / fb_sm (fun k => o k * T k) L := fun l => if_neg w
      generalize hW : fb_sm (fun k => o k * T k) L = W at *
      refine pp_t ((lg_cmp_gt _ _).mpr ((pk_lLT (a := 0) (by omega) (by omega)).mpr (by omega))) ?_
      refine hh_lp1_i (fun x σ => ∃ j, j ≤ L ∧ x = nI j ∧ σ.1 = c.1 ∧ σ.2.2.1 = c.2.2.1 ∧ (∀ l, l < j → hh_b σ (33 + 6 * b) l = lN (jg_w T L o l)) ∧ (∀ l, l < L → hh_b σ (34 + 6 * b) l = lN (o l * T l))) (fun x σ => L - x.toNatClampNeg) ?_ ⟨0, by omega, rfl, hI, hA, fun i hi => absurd hi (Nat.not_lt_zero i), hV⟩
      clear hI hA hF hV σ
      rintro K x σ ⟨j, hj, rfl, hI, hA, hF, hV⟩ hK
      unfold wq_X2_weigh_71
      refine pp_c _ (pp_le (by omega) (by omega)) (fun e => ?_) (fun e => ⟨pp_in (by omega) (by omega), fun z => by have := (pk_lEQ (b := 0) (by omega) (by omega)).mp z; omega, pp_in (by omega) (by omega), ?_⟩)
      · have e : j = L := by omega
        subst e
        exact q σ hI hA hF
      · intro σ2 e2
        have m1 : o j * T j ≤ 1000000 * 1000 := Nat.mul_le_mul (HO j (by omega)).2 (HT j (by omega)).2
        rw [pp_rB (by omega), hV j (by omega), show (1000000 : Int64) = lN 1000000 from rfl, lN_mul, pk_lDiv (by omega) (by omega) (by omega)] at e2
        rw [show nI j + 1 = nI (j + 1) from nI_1 j]
        refine hK _ _ ⟨j + 1, by omega, rfl, by rw [e2]; exact hI, by rw [e2]; exact hA, fun l hl => ?_, fun l hl => ?_⟩ (by rw [pp_cl (by omega), pp_cl (by omega)]; omega)
        · rw [e2, pp_sB_b (by omega)]
          by_cases z : l = j
          · rw [if_pos ⟨rfl, z⟩, z, wv]
          · rw [if_neg (fun y => z y.2)]
            exact hF l (by omega)
        · rw [e2, pp_sB_b (by omega), if_neg (fun y => absurd y.1 (by omega))]
          exact hV l hl
  · intro σ2 e2
    have rd : hh_a σ (79 + 34 * b + h) (16 * (L - 2) + 4 * j + s) = nI (T j) := by
      have := (HT j (by omega)).1
      unfold hh_a at this ⊢
      rw [hA]
      exact this
    have t1 := (HT j (by omega)).2
    rw [pp_rB (by omega), hF j (by omega), pp_cl (by omega), pp_rA (by omega), rd, nI_I (by omega), lN_mul] at e2
    refine ⟨pp_in (by omega) (by omega), ?_⟩
    have w2 : hh_b σ2 (34 + 6 * b) j = lN (o j * T j) := by rw [e2, pp_sB_b (by omega), if_pos ⟨rfl, rfl⟩]
    rw [pp_rB (by omega), w2, lN_add, show nI j + 1 = nI (j + 1) from nI_1 j]
    rintro v rfl
    refine hK _ _ _ ⟨j + 1, by omega, rfl, rfl, by rw [e2]; exact hI, by rw [e2]; exact hA, fun l hl => ?_, fun l hl => ?_⟩ (by rw [pp_cl (by omega), pp_cl (by omega)]; omega)
    · rw [e2, pp_sB_b (by omega), if_neg (fun y => absurd y.1 (by omega))]
      exact hF l hl
    · by_cases z : l = j
      · rw [z]
        exact w2
      · rw [e2, pp_sB_b (by omega), if_neg (fun y => z y.2)]
        exact hV l (by omega)
theorem s2_weighAnswers {b ns ni nh i : Nat} {T : Nat → Nat → Nat → Nat → Nat} {c d : hh_S} {Q : hh_S → Prop} (R : rr_C ns ni nh c d) (hi : i < ni) (HT : jc_T b nh T c) (TB : jg_TB T) (q : ∀ c' : hh_S, c'.1 = c.1 → c'.2.2.1 = c.2.2.1 → (∀ l, l < mm_L d i → hh_b c' (33 + 6 * b) l = lN (jg_o d T i nh l)) → Q c') : wp_X2_weighAnswers b (nI i) c Q := by
  have h24 := R.2.1.1
  have h10 := R.2.2.1.1
  obtain ⟨L, L2, L4, hL, lb, l22, -⟩ := rr_lb R hi
  unfold wp_X2_weighAnswers
  refine ⟨pp_in (by omega) (by omega), ?_⟩
  rw [pp_rA (by omega), l22]
  rintro v rfl
  refine hh_lp1_i (fun x σ => ∃ j, j ≤ L ∧ x = nI j ∧ σ.1 = c.1 ∧ σ.2.2.1 = c.2.2.1 ∧ (∀ l, l < j → hh_b σ (33 + 6 * b) l = lN (1000000 / L))) (fun x σ => L - x.toNatClampNeg) ?_ ⟨0, by omega, rfl, rfl, rfl, fun i hi => absurd hi (Nat.not_lt_zero i)⟩
  rintro K x σ ⟨j, hj, rfl, hI, hA, hF⟩ hK
  unfold wq_X2_weighAnswers_12
  refine pp_c _ (pp_le (by omega) (by omega)) (fun e => ?_) (fun e => s2_alike L2 L4 ⟨pp_in (by omega) (by omega), ?_⟩)
  · have e' : j = L := by omega
    rw [e'] at hF
    clear hK K hj e e' j
    refine hh_lp1_i (fun x σ => ∃ h, h ≤ nh ∧ x = nI h ∧ σ.1 = c.1 ∧ σ.2.2.1 = c.2.2.1 ∧ (∀ l, l < L → hh_b σ (33 + 6 * b) l = lN (jg_o d T i h l))) (fun x σ => nh - x.toNatClampNeg) ?_ ⟨0, by omega, rfl, hI, hA, fun l hl => by rw [hF l hl]; unfold jg_o; rw [hL]⟩
    clear hI hA hF σ
    rintro K x σ ⟨h, hh, rfl, hI, hA, hF⟩ hK
    have RC : rr_C ns ni nh σ d := jc_E_C ⟨hI, fun k hk => by rw [hA]⟩ R
    unfold wq_X2_weighAnswers_36
    show (σ.1 320 ≤ nI h → _) ∧ (¬ σ.1 320 ≤ nI h → _)
    rw [RC.2.2.1.2.1]
    refine pp_c _ (pp_le (by omega) (by omega)) (fun e => ?_) (fun e => s0_counts RC (by omega) hi ?_)
    · have e : h = nh := by omega
      subst e
      exact q σ hI hA (by rw [hL]; exact hF)
    · have mu : nh - (nI (h + 1)).toNatClampNeg < nh - (nI h).toNatClampNeg := by rw [pp_cl (by omega), pp_cl (by omega)]; omega
      rw [show nI h + 1 = nI (h + 1) from nI_1 h]
      refine pp_bz (fun w => ?_) (fun w => ⟨pp_in (by omega) (by omega), pp_in (by omega) (by omega), ?_⟩)
      · refine hK _ _ ⟨h + 1, by omega, rfl, hI, hA, fun l hl => ?_⟩ mu
        rw [hF l hl, jg_o, if_neg (by rw [w]; decide)]
      · obtain ⟨a1, a2, a3, a4⟩ := jg_an RC (show h < nh by omega) hi w
        rw [hL] at a1
        rw [pp_rA (by omega), pp_cl (by omega), a3]
        refine s2_weigh (T := fun t => T h L t (jg_a d h i)) (o := jg_o d T i h) (by omega) L2 L4 a1 (fun l hl => ⟨hF l hl, jg_o_b h l (by rw [hL]; exact hl)⟩) (fun t ht => ⟨?_, TB _ _ _ _ ht a1⟩) ?_
        · have := HT h (by omega) L t (jg_a d h i) L2 L4 ht a1
          unfold hh_a at this ⊢
          rw [hA]
          exact this
        · intro c' c1 c2 c3
          refine hK _ _ ⟨h + 1, by omega, rfl, c1.trans hI, c2.trans hA, fun l hl => ?_⟩ mu
          rw [c3 l hl, jg_o, if_pos w, hL]
  · intro σ2 e2
    rw [show (1000000 : Int32) = nI 1000000 from rfl, pk_div (by omega) (by omega) (by omega), nI_I (by have := Nat.div_le_self 1000000 L; omega)] at e2
    rw [show nI j + 1 = nI (j + 1) from nI_1 j]
    refine hK _ _ ⟨j + 1, by omega, rfl, by rw [e2]; exact hI, by rw [e2]; exact hA, fun l hl => ?_⟩ (by rw [pp_cl (by omega), pp_cl (by omega)]; omega)
    rw [e2, pp_sB_b (by omega)]
    by_cases z : l = j
    · rw [if_pos ⟨rfl, z⟩]
    · rw [if_neg (fun y => z y.2)]
      exact hF l (by omega)
theorem jc_abs {a b : Nat} (ha : a ≤ 1000000) (hb : b ≤ 1000000) : (if (0 : Int32) ≤ nI a - nI b then nI a - nI b else 0 - (nI a - nI b)) = nI (jg_k a b) := by
  have e : (nI a - nI b).toInt = (a : Int) - b := pk_sub_toInt (by omega) (by omega)
  have z0 : (0 : Int32).toInt = 0 := by decide
  unfold jg_k
  by_cases h : a < b
  · rw [if_pos h, if_neg (by rw [fa_le, e, z0]; omega), fa_eq, fb_subI (by rw [e, z0]; omega) (by rw [e, z0]; omega), e, nI_toInt (by omega), z0]
    omega
  · rw [if_neg h, if_pos (by rw [fa_le, e, z0]; omega), pk_sub (by omega)]
theorem s2_takeFresh {b i L : Nat} {o S : Nat → Nat} {c : hh_S} {Q : Int32 → hh_S → Prop} (hi : i < 24) (l22 : hh_a c 22 i = nI L) (L4 : L ≤ 4) (HO : ∀ l, l < L → hh_b c (33 + 6 * b) l = lN (o l) ∧ o l ≤ 1000000) (HS : ∀ l, l < L → hh_a c (55 + 34 * b + i) l = nI (S l) ∧ S l ≤ 1000000) (q : ∀ c' : hh_S, c'.1 = c.1 → (∀ k, k ≠ 55 + 34 * b + i → c'.2.2.1 k = c.2.2.1 k) → (∀ l, l < L → hh_a c' (55 + 34 * b + i) l = nI (o l)) → Q (nI (jg_y o S 0 L)) c') : wp_X2_takeFresh b (nI i) c Q := by
  unfold wp_X2_takeFresh
  refine hh_lp2_i (fun x y σ => ∃ j, j ≤ L ∧ y = nI j ∧ x = nI (jg_y o S 0 j) ∧ σ.1 = c.1 ∧ σ.2.2.2 = c.2.2.2 ∧ (∀ k, k ≠ 55 + 34 * b + i → σ.2.2.1 k = c.2.2.1 k) ∧ (∀ l, l < L → hh_a σ (55 + 34 * b + i) l = if l < j then nI (o l) else nI (S l))) (fun x y σ => L - y.toNatClampNeg) ?_ ⟨0, by omega, rfl, rfl, rfl, rfl, fun _ _ => rfl, fun l hl => by rw [if_neg (by omega)]; exact (HS l hl).1⟩
  rintro K x y σ ⟨j, hj, rfl, rfl, hI, hB, hO, hV⟩ hK
  unfold wq_X2_takeFresh_4
  refine ⟨pp_in (by omega) (by omega), ?_⟩
  rw [pp_rA (by omega), show hh_a σ 22 i = nI L from (congrFun (hO 22 (by omega)) i).trans l22]
  refine pp_c _ (pp_le (by omega) (by omega)) (fun e => ?_) (fun e => ⟨pp_in (by omega) (by omega), ?_⟩)
  · have e : j = L := by omega
    subst e
    exact q σ hI hO (fun l hl => by rw [hV l hl, if_pos hl])
  · have rb : hh_b σ (33 + 6 * b) j = lN (o j) := by
      have := (HO j (by omega)).1
      unfold hh_b at this ⊢
      rw [hB]
      exact this
    have ra : hh_a σ (55 + 34 * b + i) j = nI (S j) := by rw [hV j (by omega), if_neg (by omega)]
    have o1 := (HO j (by omega)).2
    have s1 := (HS j (by omega)).2
    have y1 : jg_y o S 0 j ≤ 1000000 := jg_y_b (by omega) j (fun l hl => (HO l (by omega)).2) (fun l hl => (HS l (by omega)).2)
    have k1 := jg_k_b o1 s1
    rw [pp_rB (by omega), rb, lN_i, pp_cl (by omega), pp_rA (by omega), ra]
    rintro v rfl
    rw [jc_abs o1 s1]
    refine ⟨pp_in (by omega) (by omega), pp_in (by omega) (by omega), ?_⟩
    intro w hw
    refine ⟨pp_in (by omega) (by omega), pp_in (by omega) (by omega), ?_⟩
    intro σ2 e2
    rw [show nI j + 1 = nI (j + 1) from nI_1 j]
    refine hK _ _ _ ⟨j + 1, by omega, rfl, ?_, by rw [e2]; exact hI, by rw [e2]; exact hB, fun k hk => by rw [e2, pp_sA_f hk]; exact hO k hk, fun l hl => ?_⟩ (by rw [pp_cl (by omega), pp_cl (by omega)]; omega)
    · rw [hw, jg_y]
      by_cases z : jg_y o S 0 j < jg_k (o j) (S j)
      · rw [if_pos z, if_pos ((pp_lt (by omega) (by omega)).mpr z)]
      · rw [if_neg z, if_neg (fun y => z ((pp_lt (by omega) (by omega)).mp y))]
    · rw [e2, pp_sA_a (by omega)]
      by_cases z : l = j
      · rw [if_pos ⟨rfl, z⟩, z, if_pos (by omega)]
      · rw [if_neg (fun y => z y.2), hV l hl]
        by_cases z2 : l < j
        · rw [if_pos z2, if_pos (by omega)]
        · rw [if_neg z2, if_neg (by omega)]
