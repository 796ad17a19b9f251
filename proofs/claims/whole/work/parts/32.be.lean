/-! ===== belief ===== -/
def mm_br (m : hh_S) (b s : Nat) : Int32 := nI b * hh_a m 15 s + (20 - nI b) * hh_a m 16 s
def mm_bs (m : hh_S) (b : Nat) : Nat := pp_bst (mm_br m b) 21
def mm_un (m : hh_S) (b : Nat) : Bool := decide (¬ mm_br m b (mm_bs m b) ≤ mm_br m b b)
theorem mm_bs_lt (m : hh_S) (b : Nat) : mm_bs m b < 21 := pp_bst_lt _ (by decide)
theorem s4_brings {b s : Nat} {c m : hh_S} {Q : Int32 → hh_S → Prop} (R : rr_7 c m) (hs : s < 21) (q : Q (mm_br m b s) c) : wp_X4_brings (nI b) (nI s) c Q := by
  unfold wp_X4_brings
  rw [pp_rA (by omega), pp_rA (by omega), (R s hs).1, (R s hs).2]
  exact ⟨pp_in hs (by omega), pp_in hs (by omega), q⟩
theorem s9_brings {b s : Nat} {m : hh_S} {Q : Int32 → hh_S → Prop} (hs : s < 21) (q : Q (mm_br m b s) m) : wp_X9_brings (nI b) (nI s) m Q := by
  unfold wp_X9_brings
  rw [pp_rA (by omega), pp_rA (by omega)]
  exact ⟨pp_in hs (by omega), pp_in hs (by omega), q⟩
theorem s4_bestSaying {b : Nat} {c m : hh_S} {Q : Int32 → hh_S → Prop} (R : rr_7 c m) (q : Q (nI (mm_bs m b)) c) : wp_X4_bestSaying (nI b) c Q := by
  unfold wp_X4_bestSaying
  refine hh_lp2_i (fun a x σ => ∃ j, 1 ≤ j ∧ j ≤ 21 ∧ x = nI j ∧ a = nI (pp_bst (mm_br m b) j) ∧ c = σ) (fun a x σ => 21 - x.toNatClampNeg) ?_ ⟨1, by omega, by omega, rfl, by rw [pp_bst_1]; rfl, rfl⟩
  rintro K a x σ ⟨j, hj1, hj, rfl, rfl, rfl⟩ hK
  unfold wq_X4_bestSaying_4
  rw [show (20 : Int32) = nI 20 from rfl]
  refine pp_c _ (pp_lt (by omega) (by omega)) (fun e => ?_) (fun e => ?_)
  · have e : j = 21 := by omega
    subst e
    exact q
  · have hb := pp_bst_lt (mm_br m b) hj1
    refine s4_brings R (by omega) (s4_brings R (by omega) ?_)
    rw [show nI j + 1 = nI (j + 1) from nI_1 j]
    have mu : 21 - (nI (j + 1)).toNatClampNeg < 21 - (nI j).toNatClampNeg := by rw [pp_cl (by omega), pp_cl (by omega)]; omega
    refine ⟨fun e2 => ?_, fun e2 => ?_⟩
    · exact hK _ _ _ ⟨j + 1, by omega, by omega, rfl, by rw [pp_bst, if_neg (fun z => (fa_of_lt z).2.1 e2)], rfl⟩ mu
    · exact hK _ _ _ ⟨j + 1, by omega, by omega, rfl, by rw [pp_bst, if_pos (fa_of_nle e2)], rfl⟩ mu
theorem s4_firstUntrue {c m : hh_S} {Q : Int32 → hh_S → Prop} (R : rr_7 c m) (q : Q (pp_fi (mm_un m) 21) c) : wp_X4_firstUntrue c Q := by
  unfold wp_X4_firstUntrue
  refine hh_lp1_i (fun x σ => ∃ j, j ≤ 21 ∧ x = nI j ∧ (∀ k, k < j → mm_un m k = false) ∧ c = σ) (fun x σ => 21 - x.toNatClampNeg) ?_ ⟨0, by omega, rfl, fun k hk => absurd hk (Nat.not_lt_zero k), rfl⟩
  rintro K x σ ⟨j, hj, rfl, hf, rfl⟩ hK
  unfold wq_X4_firstUntrue_2
  rw [show (20 : Int32) = nI 20 from rfl]
  refine pp_c _ (pp_lt (by omega) (by omega)) (fun e => ?_) (fun e => ?_)
  · have e : j = 21 := by omega
    subst e
    unfold pp_fi at q
    rw [pp_first_none hf, if_neg (by omega)] at q
    exact q
  · refine s4_bestSaying R (s4_brings R (mm_bs_lt m j) (s4_brings R (by omega) ?_))
    rw [show nI j + 1 = nI (j + 1) from nI_1 j]
    refine ⟨fun e2 => ?_, fun e2 => ?_⟩
    · refine hK _ _ ⟨j + 1, by omega, rfl, fun k hk => ?_, rfl⟩ (by rw [pp_cl (by omega), pp_cl (by omega)]; omega)
      by_cases e3 : k = j
      · subst e3
        exact decide_eq_false (fun z => z e2)
      · exact hf k (by omega)
    · unfold pp_fi at q
      rw [pp_first_is (k := j) (by omega) (decide_eq_true e2) hf, if_pos (by omega)] at q
      exact q
theorem s9_belief {x : Int32} {m : hh_S} {Q : Int32 → hh_S → Prop} (h1 : ¬ x < 0) (h2 : ¬ 2 < x) (q0 : ¬ fa_first (mm_un m) 21 < 21 → Q (-6) m) (q1 : ∀ b, b < 21 → fa_first (mm_un m) 21 = b → ((¬ x = 0 → ((¬ x = 1 → Q (mm_br m b (mm_bs m b) - mm_br m b b) m) ∧ (x = 1 → Q (nI (mm_bs m b)) m))) ∧ (x = 0 → Q (nI b) m))) : wp_X9_belief x m Q := by
  unfold wp_X9_belief
  refine s9_inT h1 h2 (pp_nf (by decide) ?_)
  refine hh_lp1_i (fun y σ => ∃ j, j ≤ 21 ∧ y = nI j ∧ (∀ k, k < j → mm_un m k = false) ∧ m = σ) (fun y σ => 21 - y.toNatClampNeg) ?_ ⟨0, by omega, rfl, fun k hk => absurd hk (Nat.not_lt_zero k), rfl⟩
  rintro K y σ ⟨j, hj, rfl, hf, rfl⟩ hK
  unfold wq_X9_belief_14
  rw [show (20 : Int32) = nI 20 from rfl]
  refine pp_c _ (pp_lt (by omega) (by omega)) (fun e => ?_) (fun e => ?_)
  · have e : j = 21 := by omega
    subst e
    exact q0 (by rw [pp_first_none hf]; omega)
  · refine hh_lp2_i (fun a y σ => ∃ i, 1 ≤ i ∧ i ≤ 21 ∧ y = nI i ∧ a = nI (pp_bst (mm_br m j) i) ∧ m = σ) (fun a y σ => 21 - y.toNatClampNeg) ?_ ⟨1, by omega, by omega, rfl, by rw [pp_bst_1]; rfl, rfl⟩
    rintro K2 a y σ ⟨i, hi1, hi, rfl, rfl, rfl⟩ hK2
    unfold wq_X9_belief_25
    rw [show (20 : Int32) = nI 20 from rfl]
    refine pp_c _ (pp_lt (by omega) (by omega)) (fun e3 => ?_) (fun e3 => ?_)
    · have e3 : i = 21 := by omega
      subst e3
      have hb := mm_bs_lt m j
      refine s9_brings (s := mm_bs m j) hb (s9_brings (by omega) ?_)
      refine ⟨fun e2 => ?_, fun e2 => ?_⟩
      · rw [show nI j + 1 = nI (j + 1) from nI_1 j]
        refine hK _ _ ⟨j + 1, by omega, rfl, fun k hk => ?_, rfl⟩ (by rw [pp_cl (by omega), pp_cl (by omega)]; omega)
        by_cases e4 : k = j
        · subst e4
          exact decide_eq_false (fun z => z e2)
        · exact hf k (by omega)
      · have q := q1 j (by omega) (pp_first_is (k := j) (by omega) (decide_eq_true e2) hf)
        refine ⟨fun z0 => ⟨fun z1 => s9_brings (s := mm_bs m j) hb (s9_brings (by omega) ((q.1 z0).1 z1)), fun z1 => (q.1 z0).2 z1⟩, q.2⟩
    · have hb := pp_bst_lt (mm_br m j) hi1
      refine s9_brings (by omega) (s9_brings (by omega) ?_)
      rw [show nI i + 1 = nI (i + 1) from nI_1 i]
      have mu : 21 - (nI (i + 1)).toNatClampNeg < 21 - (nI i).toNatClampNeg := by rw [pp_cl (by omega), pp_cl (by omega)]; omega
      refine ⟨fun e2 => ?_, fun e2 => ?_⟩
      · exact hK2 _ _ _ ⟨i + 1, by omega, by omega, rfl, by rw [pp_bst, if_neg (fun z => (fa_of_lt z).2.1 e2)], rfl⟩ mu
      · exact hK2 _ _ _ ⟨i + 1, by omega, by omega, rfl, by rw [pp_bst, if_pos (fa_of_nle e2)], rfl⟩ mu
theorem ps_belief (x : Int32) : RR_i (wp_X8_belief x) (wp_X9_belief x) := by
  rintro c m ⟨sn, ns, ni, nh, R1, RC, R7, R8, R9⟩
  have R : RR_s c m := ⟨sn, ns, ni, nh, R1, RC, R7, R8, R9⟩
  unfold wp_X8_belief
  by_cases h1 : x < 0
  · refine pp_t h1 ?_
    unfold wp_X9_belief
    exact s9_inF (fun w => w.1 h1) (pp_nt rfl ⟨rfl, R⟩)
  refine pp_f h1 ?_
  by_cases h2 : ¬ x ≤ 2
  · refine pp_f h2 ?_
    unfold wp_X9_belief
    exact s9_inF (fun w => w.2 (fa_of_nle h2)) (pp_nt rfl ⟨rfl, R⟩)
  have h2 := Classical.not_not.mp h2
  have h3 : ¬ 2 < x := fun w => (fa_of_lt w).2.1 h2
  refine pp_t h2 (s4_firstUntrue R7 ?_)
  refine pp_c _ (pp_fi_6 (by omega)) (fun e => ?_) (fun e => ?_)
  · rw [show pp_fi (mm_un m) 21 = -6 from if_neg e]
    exact s9_belief h1 h3 (fun _ => ⟨rfl, R⟩) (fun b hb hf => absurd (by rw [hf]; exact hb) e)
  · have e := Classical.not_not.mp e
    rw [show pp_fi (mm_un m) 21 = nI (fa_first (mm_un m) 21) from if_pos e]
    generalize hb : fa_first (mm_un m) 21 = b at e ⊢
    refine ⟨fun z0 => s4_bestSaying R7 ⟨fun z1 => s4_brings R7 (mm_bs_lt m b) (s4_brings R7 e (s9_belief h1 h3 (fun w => absurd (by rw [hb]; exact e) w) (fun b' _ hb' => ?_))), fun z1 => s9_belief h1 h3 (fun w => absurd (by rw [hb]; exact e) w) (fun b' _ hb' => ?_)⟩, fun z0 => s9_belief h1 h3 (fun w => absurd (by rw [hb]; exact e) w) (fun b' _ hb' => ?_)⟩
    · rw [hb] at hb'
      subst hb'
      exact ⟨fun _ => ⟨fun _ => ⟨rfl, R⟩, fun w => absurd w z1⟩, fun w => absurd w z0⟩
    · rw [hb] at hb'
      subst hb'
      exact ⟨fun _ => ⟨fun w => absurd z1 w, fun _ => ⟨rfl, R⟩⟩, fun w => absurd w z0⟩
    · rw [hb] at hb'
      subst hb'
      exact ⟨fun w => absurd z0 w, fun _ => ⟨rfl, R⟩⟩
/-! ===== misread ===== -/
def mm_cw (m : hh_S) (i l h : Nat) : Bool := mm_cnt m h i && decide (hh_a m 13 (24 * h + i) = nI (l + 1))
def mm_ml (m : hh_S) (nh : Nat) (n : Int32) (i l : Nat) : Bool := decide (¬ nI l = hh_a m 8 i) && decide (¬ nI (fb_ct (mm_cw m i l) nh) < n)
def mm_ms (m : hh_S) (nh : Nat) (n : Int32) (i L : Nat) : Bool := pp_all (fun l => !mm_ml m nh n i l) L
def mm_mp (m : hh_S) (nh : Nat) (n : Int32) : Nat → Int32
  | 0 => 0
  | j + 1 => if hh_a m 8 j < 0 then mm_mp m nh n j else if mm_ms m nh n j (mm_L m j) = true then mm_mp m nh n j else mm_mp m nh n j ||| hh_a m 10 j
theorem s0_countWith {ns ni nh i l L : Nat} {c m : hh_S} {Q : Int32 → hh_S → Prop} (R : rr_C ns ni nh c m) (hi : i < ni) (hl : l < L) (L4 : L ≤ 4) (q : Q (nI (fb_ct (mm_cw m i l) nh)) c) : wp_X0_countWith (nI i) (nI l) c Q := by
  have h24 := R.2.1.1
  have h10 := R.2.2.1.1
  have hn := R.2.2.1.2.1
  unfold wp_X0_countWith
  refine pp_cloop (N := nh) (p := mm_cw m i l) (by omega) (fun K => ?_) (fun K j hj go => ?_)
  · unfold wq_X0_countWith_5
    show (c.1 320 ≤ _ → _) ∧ (¬ c.1 320 ≤ _ → _)
    rw [hn]
    exact pp_t ((pp_le (by omega) (by omega)).mpr (Nat.le_refl _)) q
  · unfold wq_X0_countWith_5
    show (c.1 320 ≤ _ → _) ∧ (¬ c.1 320 ≤ _ → _)
    rw [hn]
    refine pp_f (fun z => by have := (pp_le (by omega) (by omega)).mp z; omega) (s0_counts R hj hi ?_)
    refine pp_bz (fun e => ?_) (fun e => ⟨pp_in (by omega) (by omega), pp_in (by omega) (by omega), ?_⟩)
    · rintro v rfl
      exact go false (by unfold mm_cw; rw [e, Bool.false_and])
    · rw [pp_cl (by omega), pp_rA (by omega)]
      have T : mm_cw m i l j = decide (hh_a m 13 (24 * j + i) = nI (l + 1)) := by unfold mm_cw; rw [e, Bool.true_and]
      unfold mm_cnt at e
      rw [Bool.and_eq_true] at e
      have e1 := of_decide_eq_true e.2
      rcases (R.2.2.2.1 j hj).1 i hi with ⟨b1, b2⟩ | ⟨k', L', -, hk', hL, b1, b2⟩
      · exact absurd (by rw [b1]; decide) e1
      · rw [b1] at T
        rw [b2]
        by_cases z : k' = l
        · refine pp_nt (by rw [z]) ?_
          rintro v rfl
          exact go true (by rw [T, z]; exact decide_eq_true rfl)
        · refine pp_nf (fun w => z ((pp_eq (by omega) (by omega)).mp w)) ?_
          rintro v rfl
          exact go false (by rw [T]; exact decide_eq_false (fun w => z (by have := (pp_eq (by omega) (by omega)).mp w; omega)))
theorem s8_isMisread {ns ni nh i : Nat} {n : Int32} {c m : hh_S} {Q : Int32 → hh_S → Prop} (R : rr_C ns ni nh c m) (hi : i < ni) (q : Q (pp_i (!mm_ms m nh n i (mm_L m i))) c) : wp_X8_isMisread (nI i) n c Q := by
  have h24 := R.2.1.1
  obtain ⟨L, L2, L4, eN, -, eC, -⟩ := rr_lb R hi
  obtain ⟨k1, -⟩ := rr_kn R hi
  rw [eN] at q
  unfold wp_X8_isMisread
  refine hh_lp1_i (fun x σ => ∃ j, j ≤ L ∧ x = nI j ∧ mm_ms m nh n i j = true ∧ c = σ) (fun x σ => L - x.toNatClampNeg) ?_ ⟨0, by omega, rfl, rfl, rfl⟩
  rintro K x σ ⟨j, hj, rfl, hf, rfl⟩ hK
  unfold wq_X8_isMisread_2
  rw [pp_rA (by omega), eC, pp_rA (by omega), k1]
  refine ⟨pp_in (by omega) (by omega), ?_⟩
  refine pp_c _ (pp_le (by omega) (by omega)) (fun e => ?_) (fun e => ⟨pp_in (by omega) (by omega), ?_⟩)
  · have e : j = L := by omega
    subst e
    rw [hf] at q
    exact q
  · rw [show nI j + 1 = nI (j + 1) from nI_1 j]
    have mu : L - (nI (j + 1)).toNatClampNeg < L - (nI j).toNatClampNeg := by rw [pp_cl (by omega), pp_cl (by omega)]; omega
    have go : mm_ml m nh n i j = false → K (nI (j + 1)) c := fun ht => hK _ _ ⟨j + 1, by omega, rfl, by unfold mm_ms at hf ⊢; rw [pp_all, hf, ht]; rfl, rfl⟩ mu
    by_cases e2 : nI j = hh_a m 8 i
    · exact pp_t e2 (go (by unfold mm_ml; rw [decide_eq_false (fun z => z e2), Bool.false_and]))
    · refine pp_f e2 (s0_countWith R hi (L := L) (by omega) L4 ?_)
      have T : mm_ml m nh n i j = decide (¬ nI (fb_ct (mm_cw m i j) nh) < n) := by unfold mm_ml; rw [decide_eq_true e2, Bool.true_and]
      by_cases e3 : nI (fb_ct (mm_cw m i j) nh) < n
      · exact pp_t e3 (go (by rw [T]; exact decide_eq_false (fun z => z e3)))
      · refine pp_f e3 ?_
        have z : mm_ms m nh n i L = false := pp_all_f (k := j) (show (!mm_ml m nh n i j) = false by rw [T, decide_eq_true e3]; rfl) (by omega)
        rw [z] at q
        exact q
theorem pp_or_or (a b : Int32) : a ||| b ||| b = a ||| b := by
  rw [Int32.or_assoc, Int32.or_self]
theorem ps_misread (x : Int32) : RR_i (wp_X8_misread x) (wp_X9_misread x) := by
  rintro c m ⟨sn, ns, ni, nh, R1, RC, R7, R8, R9⟩
  have R : RR_s c m := ⟨sn, ns, ni, nh, R1, RC, R7, R8, R9⟩
  have h8 := RC.1.1
  obtain ⟨h10, f1, f2, f3⟩ := RC.2.2.1
  obtain ⟨h24, e1, e2, e3⟩ := RC.2.1
  unfold wp_X8_misread
  by_cases h1 : x < 1
  · refine pp_t h1 ?_
    unfold wp_X9_misread
    exact s9_inF (fun w => w.1 h1) (pp_nt rfl ⟨rfl, R⟩)
  refine pp_f h1 ?_
  by_cases h2 : ¬ x ≤ 10
  · refine pp_f h2 ?_
    unfold wp_X9_misread
    exact s9_inF (fun w => w.2 (fa_of_nle h2)) (pp_nt rfl ⟨rfl, R⟩)
  have h2 := Classical.not_not.mp h2
  refine pp_t h2 ?_
  refine hh_lp2_i (fun a b σ => ∃ j, j ≤ ni ∧ b = nI j ∧ a = mm_mp m nh x j ∧ c = σ) (fun a b σ => ni - b.toNatClampNeg) ?_ ⟨0, Nat.zero_le _, rfl, rfl, rfl⟩
  rintro K a b σ ⟨j, hj, rfl, rfl, rfl⟩ hK
  unfold wq_X8_misread_18
  show (c.1 256 ≤ nI j → _) ∧ (¬ c.1 256 ≤ nI j → _)
  rw [e1]
  refine pp_c _ (pp_le (by omega) (by omega)) (fun e => ?_) (fun e => ?_)
  · have e : j = ni := by omega
    subst e
    unfold wp_X9_misread
    refine s9_inT h1 (fun w => (fa_of_lt w).2.1 h2) (pp_nf (by decide) ?_)
    refine hh_lp2_i (fun a b σ => ∃ i, i ≤ j ∧ b = nI i ∧ a = mm_mp m nh x i ∧ m = σ) (fun a b σ => j - b.toNatClampNeg) ?_ ⟨0, Nat.zero_le _, rfl, rfl, rfl⟩
    rintro K a b σ ⟨i, hi, rfl, rfl, rfl⟩ hK
    unfold wq_X9_misread_17
    show (m.1 7 ≤ nI i → _) ∧ (¬ m.1 7 ≤ nI i → _)
    rw [e2]
    refine pp_c _ (pp_le (by omega) (by omega)) (fun e => ?_) (fun e => ?_)
    · have e : i = j := by omega
      subst e
      exact ⟨rfl, R⟩
    · obtain ⟨L, L2, L4, eN, -, eC, st, hst, e6, e3', -⟩ := rr_lb RC (show i < j by omega)
      have mu : j - (nI (i + 1)).toNatClampNeg < j - (nI i).toNatClampNeg := by rw [pp_cl (by omega), pp_cl (by omega)]; omega
      have go : ∀ a : Int32, a = mm_mp m nh x (i + 1) → K a (nI i + 1) m := fun a ha => by
        rw [show nI i + 1 = nI (i + 1) from nI_1 i]
        exact hK _ _ _ ⟨i + 1, by omega, rfl, ha, rfl⟩ mu
      refine hh_lp2_i (fun a b σ => ∃ l, l ≤ L ∧ b = nI l ∧ a = (if mm_ms m nh x i l = true then mm_mp m nh x i else mm_mp m nh x i ||| hh_a m 10 i) ∧ (hh_a m 8 i < 0 → l = 0) ∧ m = σ) (fun a b σ => L - b.toNatClampNeg) ?_ ⟨0, Nat.zero_le _, rfl, rfl, fun _ => rfl, rfl⟩
      rintro K2 a b σ ⟨l, hl, rfl, rfl, hl0, rfl⟩ hK2
      unfold wq_X9_misread_28
      refine s9_labelsOf (by omega) e6 (by omega) ?_
      rw [e3']
      refine pp_c _ (pp_le (by omega) (by omega)) (fun e4 => ?_) (fun e4 => ⟨pp_in (by omega) (by omega), ?_⟩)
      · have e4 : l = L := by omega
        subst e4
        refine go _ ?_
        have E : mm_mp m nh x (i + 1) = (if hh_a m 8 i < 0 then mm_mp m nh x i else if mm_ms m nh x i (mm_L m i) = true then mm_mp m nh x i else mm_mp m nh x i ||| hh_a m 10 i) := rfl
        rw [E, eN]
        exact (if_neg (fun z => by have := hl0 z; omega)).symm
      · rw [pp_rA (by omega)]
        by_cases k0 : hh_a m 8 i < 0
        · refine pp_t k0 (go _ ?_)
          have := hl0 k0
          subst this
          rw [mm_mp, if_pos k0]
          rfl
        · refine pp_f k0 ?_
          refine pp_cloop (N := nh) (p := mm_cw m i l) (by omega) (fun K3 => ?_) (fun K3 h hh go3 => ?_)
          · unfold wq_X9_misread_53
            show (m.1 13 ≤ _ → _) ∧ (¬ m.1 13 ≤ _ → _)
            rw [f2, pp_rA (by omega), pp_rA (by omega)]
            refine pp_t ((pp_le (by omega) (by omega)).mpr (Nat.le_refl _)) ⟨pp_in (by omega) (by omega), ?_⟩
            have mu2 : L - (nI (l + 1)).toNatClampNeg < L - (nI l).toNatClampNeg := by rw [pp_cl (by omega), pp_cl (by omega)]; omega
            have go2 : ∀ a : Int32, a = (if mm_ms m nh x i (l + 1) = true then mm_mp m nh x i else mm_mp m nh x i ||| hh_a m 10 i) → K2 a (nI l + 1) m := fun a ha => by
              rw [show nI l + 1 = nI (l + 1) from nI_1 l]
              exact hK2 _ _ _ ⟨l + 1, by omega, rfl, ha, fun z => absurd z k0, rfl⟩ mu2
            have S : mm_ms m nh x i (l + 1) = (mm_ms m nh x i l && !mm_ml m nh x i l) := rfl
            have no : mm_ml m nh x i l = false → ∀ v : Int32, v = ((if mm_ms m nh x i l = true then mm_mp m nh x i else mm_mp m nh x i ||| hh_a m 10 i) ||| 0) → K2 v (nI l + 1) m := by
              intro ht v hv
              refine go2 v ?_
              rw [hv, Int32.or_zero, S, ht, Bool.not_false, Bool.and_true]
            by_cases w1 : nI l = hh_a m 8 i
            · exact pp_t w1 (no (by unfold mm_ml; rw [decide_eq_false (fun z => z w1), Bool.false_and]))
            · refine pp_f w1 ?_
              have T : mm_ml m nh x i l = decide (¬ nI (fb_ct (mm_cw m i l) nh) < x) := by unfold mm_ml; rw [decide_eq_true w1, Bool.true_and]
              by_cases w2 : nI (fb_ct (mm_cw m i l) nh) < x
              · exact pp_t w2 (no (by rw [T]; exact decide_eq_false (fun z => z w2)))
              · refine pp_f w2 ⟨pp_in (by omega) (by omega), ?_⟩
                intro v hv
                refine go2 v ?_
                have S2 : mm_ms m nh x i (l + 1) = false := by rw [S, T, decide_eq_true w2, Bool.not_true, Bool.and_false]
                rw [hv, S2, if_neg (show ¬ (false : Bool) = true by decide)]
                by_cases w3 : mm_ms m nh x i l = true
                · rw [if_pos w3]
                · rw [if_neg w3, pp_or_or]
          · unfold wq_X9_misread_53
            show (m.1 13 ≤ _ → _) ∧ (¬ m.1 13 ≤ _ → _)
            rw [f2]
            refine pp_f (fun z => by have := (pp_le (by omega) (by omega)).mp z; omega) (s9_counts (by omega) (by omega) ?_)
            refine pp_bz (fun w => ?_) (fun w => ?_)
            · rintro v rfl
              exact go3 false (by unfold mm_cw; rw [w, Bool.false_and])
            · rw [show (24 : Int32) = nI 24 from rfl, pp_idx, pp_rA (by omega), show nI l + 1 = nI (l + 1) from nI_1 l]
              refine ⟨pp_in (by omega) (by omega), ?_⟩
              have T : mm_cw m i l h = decide (hh_a m 13 (24 * h + i) = nI (l + 1)) := by unfold mm_cw; rw [w, Bool.true_and]
              by_cases w2 : hh_a m 13 (24 * h + i) = nI (l + 1)
              · refine pp_nt w2 ?_
                rintro v rfl
                exact go3 true (by rw [T]; exact decide_eq_true w2)
              · refine pp_nf w2 ?_
                rintro v rfl
                exact go3 false (by rw [T]; exact decide_eq_false w2)
  · obtain ⟨k1, k2⟩ := rr_kn RC (show j < ni by omega)
    obtain ⟨-, -, -, -, -, -, -, -, -, -, -, -, g, -⟩ := e3 j (by omega)
    rw [show nI j + 1 = nI (j + 1) from nI_1 j, pp_rA (by omega), k1]
    have mu : ni - (nI (j + 1)).toNatClampNeg < ni - (nI j).toNatClampNeg := by rw [pp_cl (by omega), pp_cl (by omega)]; omega
    have go : ∀ a : Int32, a = mm_mp m nh x (j + 1) → K a (nI (j + 1)) c := fun a ha => hK _ _ _ ⟨j + 1, by omega, rfl, ha, rfl⟩ mu
    refine ⟨pp_in (by omega) (by omega), ?_⟩
    rcases k2 with ⟨k2, k3⟩ | ⟨k, hk, k2, k3⟩
    · exact pp_t k2 (go _ (by rw [mm_mp, if_pos k3]))
    · refine pp_f (by rw [k2]; exact pp_n6 (by omega)) (s8_isMisread RC (by omega) ?_)
      refine pp_bz (fun w => go _ ?_) (fun w => ⟨pp_in (by omega) (by omega), ?_⟩)
      · rw [Bool.not_eq_false'] at w
        rw [mm_mp, if_neg k3, if_pos w]
      · intro v hv
        rw [pp_rA (by omega), g] at hv
        subst hv
        rw [Bool.not_eq_true'] at w
        exact go _ (by rw [mm_mp, if_neg k3, if_neg (by rw [w]; decide)])
