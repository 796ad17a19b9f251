/-! ===== coins, told, pays, deal, belief ===== -/
theorem ps_coins (x : Int32) : RR_i (wp_X8_coins x) (wp_X9_coins x) := by
  rintro c m ⟨sn, ns, ni, nh, R1, RC, R7, R8, R9⟩
  have R : RR_s c m := ⟨sn, ns, ni, nh, R1, RC, R7, R8, R9⟩
  obtain ⟨h10, f1, f2, f3⟩ := RC.2.2.1
  unfold wp_X8_coins
  refine s0_has f1 h10 ?_
  cases e : pp_ix x nh
  · refine pp_nt rfl ?_
    unfold wp_X9_coins
    refine s9_isHand f2 h10 ?_
    rw [e]
    exact pp_nt rfl ⟨rfl, R⟩
  · refine pp_nf (by decide) ?_
    obtain ⟨h, hh, rfl⟩ := pp_ix_t e (by omega)
    refine s8_rightOf RC hh (s8_answersOf RC hh (s8_answersToKnown RC hh ?_))
    have M : ∀ Q : Int32 → hh_S → Prop, (∀ v : Int32, v = hh_rA m 14 3 * nI (fb_ct (mm_cnt m h) ni) + hh_rA m 14 4 * nI (fb_ct (mm_rt m h) ni) - hh_rA m 14 5 * (nI (fb_ct (mm_tk m h) ni) - nI (fb_ct (mm_rt m h) ni)) → ((0 ≤ v → Q v m) ∧ (¬ 0 ≤ v → Q 0 m))) → wp_X9_coins (nI h) m Q := by
      intro Q q
      unfold wp_X9_coins
      refine s9_isHand f2 h10 ?_
      rw [e]
      exact pp_nf (by decide) (s9_answersBy RC hh (s9_rightBy RC hh (s9_knownBy RC hh (s9_rightBy RC hh q))))
    have r3 : hh_rA c 29 3 = hh_rA m 14 3 := (RC.2.2.2.2 3 (by omega)).1
    have r4 : hh_rA c 29 4 = hh_rA m 14 4 := (RC.2.2.2.2 4 (by omega)).1
    have r5 : hh_rA c 29 5 = hh_rA m 14 5 := (RC.2.2.2.2 5 (by omega)).1
    rw [r3, r4, r5]
    intro v hv
    refine ⟨fun z => M _ (fun w hw => ?_), fun z => M _ (fun w hw => ?_)⟩
    · rw [← hv] at hw
      subst hw
      exact pp_t z ⟨rfl, R⟩
    · rw [← hv] at hw
      subst hw
      exact pp_f z ⟨rfl, R⟩
noncomputable def mm_bits (m : hh_S) (ns ni : Nat) : Nat → Int32
  | 0 => 0
  | j + 1 => if mm_open m ns ni j = true then mm_bits m ns ni j ||| (1 <<< (nI j &&& 31)) else mm_bits m ns ni j
theorem s8_allAnswers {ns ni nh : Nat} {c m : hh_S} {Q : Int32 → hh_S → Prop} (R : rr_C ns ni nh c m) (q : Q (nI (fb_sm (fun h => fb_ct (mm_cnt m h) ni) nh)) c) : wp_X8_allAnswers c Q := by
  have h10 := R.2.2.1.1
  have hn := R.2.2.1.2.1
  unfold wp_X8_allAnswers
  refine hh_lp2_i (fun a b σ => ∃ j, j ≤ nh ∧ b = nI j ∧ a = nI (fb_sm (fun h => fb_ct (mm_cnt m h) ni) j) ∧ c = σ) (fun a b σ => nh - b.toNatClampNeg) ?_ ⟨0, Nat.zero_le _, rfl, rfl, rfl⟩
  rintro K a b σ ⟨j, hj, rfl, rfl, rfl⟩ hK
  unfold wq_X8_allAnswers_4
  show (c.1 320 ≤ nI j → _) ∧ (¬ c.1 320 ≤ nI j → _)
  rw [hn]
  refine pp_c _ (pp_le (by omega) (by omega)) (fun e => ?_) (fun e => ?_)
  · have e : j = nh := by omega
    subst e
    exact q
  · refine s8_answersOf R (by omega) ?_
    rw [show nI j + 1 = nI (j + 1) from nI_1 j, nI_add]
    exact hK _ _ _ ⟨j + 1, by omega, rfl, rfl, rfl⟩ (by rw [pp_cl (by omega), pp_cl (by omega)]; omega)
theorem s8_openItems {ns ni nh : Nat} {c m : hh_S} {Q : Int32 → hh_S → Prop} (R : rr_C ns ni nh c m) (R9 : rr_9 ni c m) (q : Q (mm_bits m ns ni ni) c) : wp_X8_openItems c Q := by
  have h24 := R.2.1.1
  have hn := R.2.1.2.1
  unfold wp_X8_openItems
  refine hh_lp2_i (fun a b σ => ∃ j, j ≤ ni ∧ b = nI j ∧ a = mm_bits m ns ni j ∧ c = σ) (fun a b σ => ni - b.toNatClampNeg) ?_ ⟨0, Nat.zero_le _, rfl, rfl, rfl⟩
  rintro K a b σ ⟨j, hj, rfl, rfl, rfl⟩ hK
  unfold wq_X8_openItems_4
  show (c.1 256 ≤ nI j → _) ∧ (¬ c.1 256 ≤ nI j → _)
  rw [hn]
  refine pp_c _ (pp_le (by omega) (by omega)) (fun e => ?_) (fun e => ?_)
  · have e : j = ni := by omega
    subst e
    exact q
  · refine s8_isOpen R R9 (by omega) ?_
    rw [show nI j + 1 = nI (j + 1) from nI_1 j]
    have mu : ni - (nI (j + 1)).toNatClampNeg < ni - (nI j).toNatClampNeg := by rw [pp_cl (by omega), pp_cl (by omega)]; omega
    refine pp_bz (fun w => ?_) (fun w => ?_)
    · exact hK _ _ _ ⟨j + 1, by omega, rfl, by rw [mm_bits, if_neg (by rw [w]; decide)], rfl⟩ mu
    · rintro v rfl
      exact hK _ _ _ ⟨j + 1, by omega, rfl, by rw [mm_bits, if_pos w], rfl⟩ mu
theorem ps_told (x : Int32) : RR_i (wp_X8_told x) (wp_X9_told x) := by
  rintro c m ⟨sn, ns, ni, nh, R1, RC, R7, R8, R9⟩
  have R : RR_s c m := ⟨sn, ns, ni, nh, R1, RC, R7, R8, R9⟩
  obtain ⟨h10, f1, f2, f3⟩ := RC.2.2.1
  obtain ⟨h24, e1, e2, -⟩ := RC.2.1
  have M : ∀ Q : Int32 → hh_S → Prop, ((x.toInt = 0 → Q (m.1 0) m) ∧ (x.toInt = 1 → Q (m.1 2) m) ∧ (x.toInt = 2 → Q (m.1 7) m) ∧ (x.toInt = 3 → Q (m.1 13) m) ∧ (x.toInt = 4 → Q (nI (fb_sm (fun h => fb_ct (mm_cnt m h) ni) nh)) m) ∧ (x.toInt = 5 → Q (mm_bits m ns ni ni) m) ∧ ((x.toInt < 0 ∨ 5 < x.toInt) → Q (-2) m)) → wp_X9_told x m Q := by
    intro Q q
    obtain ⟨q0, q1, q2, q3, q4, q5, q6⟩ := q
    unfold wp_X9_told
    refine ⟨q0, q1, q2, q3, fun z => ?_, fun z => ?_, q6⟩
    · refine hh_lp2_i (fun a b σ => ∃ j, j ≤ nh ∧ b = nI j ∧ a = nI (fb_sm (fun h => fb_ct (mm_cnt m h) ni) j) ∧ m = σ) (fun a b σ => nh - b.toNatClampNeg) ?_ ⟨0, Nat.zero_le _, rfl, rfl, rfl⟩
      rintro K a b σ ⟨j, hj, rfl, rfl, rfl⟩ hK
      unfold wq_X9_told_62
      show (m.1 13 ≤ nI j → _) ∧ (¬ m.1 13 ≤ nI j → _)
      rw [f2]
      refine pp_c _ (pp_le (by omega) (by omega)) (fun e => ?_) (fun e => ?_)
      · have e : j = nh := by omega
        subst e
        exact q4 z
      · refine s9_answersBy RC (by omega) ?_
        rw [show nI j + 1 = nI (j + 1) from nI_1 j, nI_add]
        exact hK _ _ _ ⟨j + 1, by omega, rfl, rfl, rfl⟩ (by rw [pp_cl (by omega), pp_cl (by omega)]; omega)
    · refine hh_lp2_i (fun a b σ => ∃ j, j ≤ ni ∧ b = nI j ∧ a = mm_bits m ns ni j ∧ m = σ) (fun a b σ => ni - b.toNatClampNeg) ?_ ⟨0, Nat.zero_le _, rfl, rfl, rfl⟩
      rintro K a b σ ⟨j, hj, rfl, rfl, rfl⟩ hK
      unfold wq_X9_told_88
      show (m.1 7 ≤ nI j → _) ∧ (¬ m.1 7 ≤ nI j → _)
      rw [e2]
      refine pp_c _ (pp_le (by omega) (by omega)) (fun e => ?_) (fun e => ?_)
      · have e : j = ni := by omega
        subst e
        exact q5 z
      · refine s9_isOpen RC (by omega) ?_
        rw [show nI j + 1 = nI (j + 1) from nI_1 j]
        have mu : ni - (nI (j + 1)).toNatClampNeg < ni - (nI j).toNatClampNeg := by rw [pp_cl (by omega), pp_cl (by omega)]; omega
        refine pp_bz (fun w => ?_) (fun w => ?_)
        · rintro v rfl
          exact hK _ _ _ ⟨j + 1, by omega, rfl, by rw [mm_bits, if_neg (by rw [w]; decide)]; exact Int32.or_zero, rfl⟩ mu
        · rintro v rfl
          exact hK _ _ _ ⟨j + 1, by omega, rfl, by rw [mm_bits, if_pos w], rfl⟩ mu
  unfold wp_X8_told
  refine ⟨fun z => M _ ⟨fun _ => ⟨R1.2.1.trans R1.2.2.1.symm, R⟩, fun w => by omega, fun w => by omega, fun w => by omega, fun w => by omega, fun w => by omega, fun w => by omega⟩, fun z => M _ ⟨fun w => by omega, fun _ => ⟨RC.1.2.1.trans RC.1.2.2.1.symm, R⟩, fun w => by omega, fun w => by omega, fun w => by omega, fun w => by omega, fun w => by omega⟩, fun z => M _ ⟨fun w => by omega, fun w => by omega, fun _ => ⟨e1.trans e2.symm, R⟩, fun w => by omega, fun w => by omega, fun w => by omega, fun w => by omega⟩, fun z => M _ ⟨fun w => by omega, fun w => by omega, fun w => by omega, fun _ => ⟨f1.trans f2.symm, R⟩, fun w => by omega, fun w => by omega, fun w => by omega⟩, fun z => s8_allAnswers RC (M _ ⟨fun w => by omega, fun w => by omega, fun w => by omega, fun w => by omega, fun _ => ⟨rfl, R⟩, fun w => by omega, fun w => by omega⟩), fun z => s8_openItems RC R9 (M _ ⟨fun w => by omega, fun w => by omega, fun w => by omega, fun w => by omega, fun w => by omega, fun _ => ⟨rfl, R⟩, fun w => by omega⟩), fun z => M _ ⟨fun w => by omega, fun w => by omega, fun w => by omega, fun w => by omega, fun w => by omega, fun w => by omega, fun _ => ⟨rfl, R⟩⟩⟩
theorem s4_allows {x : Int32} {c : hh_S} {Q : Int32 → hh_S → Prop} (h : Q (pp_i (decide (¬ x < -1000 ∧ ¬ 1000 < x))) c) : wp_X4_allows x c Q := by
  unfold wp_X4_allows
  by_cases h1 : x < -1000
  · rw [decide_eq_false (fun z => z.1 h1)] at h
    exact pp_t h1 h
  · by_cases h2 : 1000 < x
    · rw [decide_eq_false (fun z => z.2 h2)] at h
      exact pp_f h1 (pp_t h2 h)
    · rw [decide_eq_true ⟨h1, h2⟩] at h
      exact pp_f h1 (pp_f h2 h)
theorem ps_pays (x y z : Int32) : RR_i (wp_X8_pays x y z) (wp_X9_pays x y z) := by
  rintro c m ⟨sn, ns, ni, nh, R1, RC, R7, R8, R9⟩
  have R : RR_s c m := ⟨sn, ns, ni, nh, R1, RC, R7, R8, R9⟩
  have h10 := RC.2.2.1.1
  unfold wp_X8_pays
  by_cases h1 : x < 0
  · refine pp_t h1 ?_
    unfold wp_X9_pays
    exact s9_inF (fun w => w.1 h1) (pp_t rfl ⟨rfl, R⟩)
  refine pp_f h1 ?_
  by_cases h2 : 20 < x
  · refine pp_t h2 ?_
    unfold wp_X9_pays
    exact s9_inF (fun w => w.2 h2) (pp_t rfl ⟨rfl, R⟩)
  refine pp_f h2 (s4_allows ?_)
  have M : ∀ Q : Int32 → hh_S → Prop, (decide (¬ y < -1000 ∧ ¬ 1000 < y) = false → Q (-2) m) → (decide (¬ y < -1000 ∧ ¬ 1000 < y) = true → decide (¬ z < -1000 ∧ ¬ 1000 < z) = false → Q (-2) m) → (decide (¬ y < -1000 ∧ ¬ 1000 < y) = true → decide (¬ z < -1000 ∧ ¬ 1000 < z) = true → (vp_in x 21 ∧ ∀ σ11 : hh_S, σ11 = hh_sA m 15 x y → (vp_in x 21 ∧ ∀ σ13 : hh_S, σ13 = hh_sA σ11 16 x z → (Q 1 σ13)))) → wp_X9_pays x y z m Q := by
    intro Q q1 q2 q3
    unfold wp_X9_pays
    refine s9_inT h1 h2 (pp_f (by decide) ?_)
    unfold wp_X9_isPay
    refine s9_in ⟨pp_nar _, pp_bz q1 (fun u => ?_)⟩
    exact s9_in ⟨pp_nar _, pp_bn (q3 u) (q2 u)⟩
  refine pp_bz (fun u => M _ (fun _ => ⟨rfl, R⟩) (fun w => absurd (u.symm.trans w) (by decide)) (fun w => absurd (u.symm.trans w) (by decide))) (fun u => s4_allows ?_)
  refine pp_bn (fun u2 => ?_) (fun u2 => M _ (fun w => absurd (u.symm.trans w) (by decide)) (fun _ _ => ⟨rfl, R⟩) (fun _ w => absurd (u2.symm.trans w) (by decide)))
  obtain ⟨k, hk, rfl⟩ := nI_of h1
  have hk2 : k ≤ 20 := by
    rw [show (20 : Int32) = nI 20 from rfl, pp_lt (by omega) hk] at h2
    omega
  have I : vp_in (nI k) 21 := pp_in (by omega) (by omega)
  refine ⟨I, ?_⟩
  rintro c1 rfl
  refine ⟨I, ?_⟩
  rintro c2 rfl
  refine M _ (fun w => absurd (u.symm.trans w) (by decide)) (fun _ w => absurd (u2.symm.trans w) (by decide)) (fun _ _ => ⟨I, ?_⟩)
  rintro m1 rfl
  refine ⟨I, ?_⟩
  rintro m2 rfl
  have eA : ∀ j, j ≠ 43 → j ≠ 44 → (hh_sA (hh_sA c 43 (nI k) y) 44 (nI k) z).2.2.1 j = c.2.2.1 j := fun j a b => by rw [pp_sA_f b, pp_sA_f a]
  refine ⟨rfl, sn, ns, ni, nh, R1, rr_C_m (m := m) ⟨rfl, rfl, rfl⟩ (fun j hj => by rw [pp_sA_f (by unfold rr_km at hj; omega), pp_sA_f (by unfold rr_km at hj; omega)]) (rr_C_c (c := c) ⟨rfl, rfl, rfl⟩ (fun j hj => eA j (by unfold rr_kc at hj; omega) (by unfold rr_kc at hj; omega)) RC), ?_, rr_8_e (c := c) (m := m) rfl rfl rfl rfl rfl (fun h hh => eA _ (by omega) (by omega)) h10 R8, rr_9_e (c := c) (m := m) RC.2.1.1 rfl rfl rfl rfl rfl rfl rfl rfl (fun i hi => eA _ (by omega) (by omega)) R9⟩
  intro j hj
  have p1 : hh_a (hh_sA (hh_sA c 43 (nI k) y) 44 (nI k) z) 43 j = if j = k then y else hh_a c 43 j := by
    rw [pp_sA_n (by omega), pp_sA_a (by omega)]
    by_cases e4 : j = k
    · rw [if_pos ⟨rfl, e4⟩, if_pos e4]
    · rw [if_neg (fun w => e4 w.2), if_neg e4]
  have p2 : hh_a (hh_sA (hh_sA m 15 (nI k) y) 16 (nI k) z) 15 j = if j = k then y else hh_a m 15 j := by
    rw [pp_sA_n (by omega), pp_sA_a (by omega)]
    by_cases e4 : j = k
    · rw [if_pos ⟨rfl, e4⟩, if_pos e4]
    · rw [if_neg (fun w => e4 w.2), if_neg e4]
  have p3 : hh_a (hh_sA (hh_sA c 43 (nI k) y) 44 (nI k) z) 44 j = if j = k then z else hh_a c 44 j := by
    rw [pp_sA_a (by omega), pp_sA_n (by omega)]
    by_cases e4 : j = k
    · rw [if_pos ⟨rfl, e4⟩, if_pos e4]
    · rw [if_neg (fun w => e4 w.2), if_neg e4]
  have p4 : hh_a (hh_sA (hh_sA m 15 (nI k) y) 16 (nI k) z) 16 j = if j = k then z else hh_a m 16 j := by
    rw [pp_sA_a (by omega), pp_sA_n (by omega)]
    by_cases e4 : j = k
    · rw [if_pos ⟨rfl, e4⟩, if_pos e4]
    · rw [if_neg (fun w => e4 w.2), if_neg e4]
  rw [p1, p2, p3, p4]
  by_cases e4 : j = k
  · rw [if_pos e4, if_pos e4, if_pos e4, if_pos e4]
    exact ⟨rfl, rfl⟩
  · rw [if_neg e4, if_neg e4, if_neg e4, if_neg e4]
    exact R7 j hj
/-- the lots -/
def mm_sq (a : Nat) : Nat → Nat
  | 0 => a
  | j + 1 => mm_sq a j * 16807 % 2147483647
theorem mm_sq_lt {a : Nat} (h : a < 2147483647) : ∀ j, mm_sq a j < 2147483647
  | 0 => h
  | j + 1 => Nat.mod_lt _ (by decide)
theorem mm_sq_s {a : Nat} (h : a < 2147483647) (j : Nat) : lN (mm_sq a j) * 16807 - lN (mm_sq a j) * 16807 / 2147483647 * 2147483647 = lN (mm_sq a (j + 1)) := by
  have hb := mm_sq_lt h j
  rw [show (16807 : Int64) = lN 16807 from rfl, show (2147483647 : Int64) = lN 2147483647 from rfl, lN_mul, pk_lRem (by omega) (by decide) (by decide)]
  rfl
theorem mm_sq_2 {a : Nat} (h : a < 2147483647) (j : Nat) : (lN (mm_sq a j) - lN (mm_sq a j) / 2 * 2).toInt32 = nI (mm_sq a j % 2) := by
  have hb := mm_sq_lt h j
  rw [show (2 : Int64) = lN 2 from rfl, pk_lRem (by omega) (by decide) (by decide)]
  exact lN_i _
theorem ps_deal (x : Int32) : RR_i (wp_X8_deal x) (wp_X9_deal x) := by
  rintro c m ⟨sn, ns, ni, nh, R1, RC, R7, R8, R9⟩
  have R : RR_s c m := ⟨sn, ns, ni, nh, R1, RC, R7, R8, R9⟩
  obtain ⟨h10, f1, f2, f3⟩ := RC.2.2.1
  have h24 := RC.2.1.1
  unfold wp_X8_deal
  by_cases h1 : x < 1
  · refine pp_t h1 ?_
    unfold wp_X9_deal
    exact s9_inF (fun w => w.1 h1) (pp_nt rfl ⟨rfl, R⟩)
  refine pp_f h1 ?_
  by_cases h2 : ¬ x ≤ 1000000
  · refine pp_f h2 ?_
    unfold wp_X9_deal
    exact s9_inF (fun w => w.2 (fa_of_nle h2)) (pp_nt rfl ⟨rfl, R⟩)
  have h2 := Classical.not_not.mp h2
  refine pp_t h2 ?_
  have hx : ∃ a, a < 2147483647 ∧ x = nI a := by
    have h3 : ¬ x < 0 := fun q => h1 (by
      rw [fa_lt] at q ⊢
      have : (0 : Int32).toInt = 0 := by decide
      have : (1 : Int32).toInt = 1 := by decide
      omega)
    obtain ⟨j, hj, rfl⟩ := nI_of h3
    refine ⟨j, ?_, rfl⟩
    rw [show (1000000 : Int32) = nI 1000000 from rfl, pp_le hj (by omega)] at h2
    omega
  obtain ⟨a, ha, rfl⟩ := hx
  intro v hv
  rw [nI_l (by omega)] at hv
  subst hv
  let vv : Nat → Nat := fun j => mm_sq a (j + 1) % 2
  have hvv : ∀ j, vv j < 2 := fun j => Nat.mod_lt _ (by decide)
  refine hh_lp3_i (fun y a' b σ => ∃ j, j ≤ nh ∧ b = nI j ∧ y = lN (mm_sq a j) ∧ a' = nI (fb_sm vv j) ∧ σ.1 = c.1 ∧ (∀ k, k ≠ 27 → σ.2.2.1 k = c.2.2.1 k) ∧ (∀ i, i < j → hh_a σ 27 i = nI (vv i))) (fun y a' b σ => nh - b.toNatClampNeg) ?_ ⟨0, Nat.zero_le _, rfl, rfl, rfl, rfl, fun _ _ => rfl, fun i hi => absurd hi (Nat.not_lt_zero i)⟩
  rintro K y a' b σ ⟨j, hj, rfl, rfl, rfl, sI, sO, sV⟩ hK
  unfold wq_X8_deal_23
  show (σ.1 320 ≤ nI j → _) ∧ (¬ σ.1 320 ≤ nI j → _)
  rw [sI, f1]
  refine pp_c _ (pp_le (by omega) (by omega)) (fun e => ?_) (fun e => ?_)
  · have e : j = nh := by omega
    subst e
    unfold wp_X9_deal
    refine s9_inT h1 (fun w => (fa_of_lt w).2.1 h2) (pp_nf (by decide) ?_)
    intro v hv
    rw [nI_l (by omega)] at hv
    subst hv
    refine hh_lp3_i (fun y a' b τ => ∃ i, i ≤ j ∧ b = nI i ∧ y = lN (mm_sq a i) ∧ a' = nI (fb_sm vv i) ∧ τ.1 = m.1 ∧ (∀ k, k ≠ 12 → τ.2.2.1 k = m.2.2.1 k) ∧ (∀ p, p < i → hh_a τ 12 p = nI (vv p))) (fun y a' b σ => j - b.toNatClampNeg) ?_ ⟨0, Nat.zero_le _, rfl, rfl, rfl, rfl, fun _ _ => rfl, fun i hi => absurd hi (Nat.not_lt_zero i)⟩
    rintro K2 y a' b τ ⟨i, hi, rfl, rfl, rfl, tI, tO, tV⟩ hK2
    unfold wq_X9_deal_22
    show (τ.1 13 ≤ nI i → _) ∧ (¬ τ.1 13 ≤ nI i → _)
    rw [tI, f2]
    refine pp_c _ (pp_le (by omega) (by omega)) (fun e => ?_) (fun e => ?_)
    · have e : i = j := by omega
      subst e
      refine ⟨rfl, sn, ns, ni, i, rr_1_e (c := c) (m := m) (by rw [sI]) (by rw [tI]) (sO _ (by omega)) (tO _ (by omega)) R1, ⟨?_, ?_, ⟨h10, by rw [sI]; exact f1, by rw [tI]; exact f2, fun h hh => ?_⟩, rr_5_e (c := c) (m := m) h10 (sO _ (by omega)) (fun h hh => sO _ (by omega)) (tO _ (by omega)) RC.2.2.2.1, ?_⟩, rr_7_e (c := c) (m := m) (sO _ (by omega)) (sO _ (by omega)) (tO _ (by omega)) (tO _ (by omega)) R7, rr_8_e (c := c) (m := m) (by rw [sI]) (by rw [tI]) (by rw [tI]) (by rw [tI]) (tO _ (by omega)) (fun h hh => sO _ (by omega)) h10 R8, rr_9_e (c := c) (m := m) h24 (by rw [tI]) (by rw [tI]) (tO _ (by omega)) (tO _ (by omega)) (tO _ (by omega)) (tO _ (by omega)) (tO _ (by omega)) (sO _ (by omega)) (fun i hi => sO _ (by omega)) R9⟩
      · have r := RC.1
        unfold rr_2 hh_a at r ⊢
        rw [sI, tI, sO 11 (by omega), sO 12 (by omega), sO 13 (by omega), sO 14 (by omega), tO 2 (by omega), tO 3 (by omega), tO 4 (by omega), tO 5 (by omega)]
        exact r
      · have r := RC.2.1
        unfold rr_3 hh_a at r ⊢
        rw [sI, tI, sO 20 (by omega), sO 21 (by omega), sO 22 (by omega), sO 23 (by omega), sO 24 (by omega), sO 25 (by omega), tO 3 (by omega), tO 6 (by omega), tO 7 (by omega), tO 8 (by omega), tO 9 (by omega), tO 10 (by omega)]
        exact r
      · obtain ⟨k1, k2, k3, k4⟩ := f3 h hh
        refine ⟨?_, ?_, ?_, ?_⟩
        · exact ((congrFun (sO 26 (by omega)) h).trans k1).trans (congrFun (tO 11 (by omega)) h).symm
        · rw [show hh_a τ 11 h = hh_a m 11 h from congrFun (tO 11 (by omega)) h]
          exact k2
        · rw [sV h hh, tV h hh]
        · rw [tV h hh]
          have := hvv h
          rcases (show vv h = 0 ∨ vv h = 1 by omega) with z | z
          · rw [z]; exact Or.inl rfl
          · rw [z]; exact Or.inr rfl
      · have r := RC.2.2.2.2
        unfold rr_6 hh_a at r ⊢
        rw [sO 29 (by omega), tO 14 (by omega)]
        exact r
    · rw [mm_sq_s ha]
      rintro v rfl
      refine ⟨pp_in (by omega) (by omega), ?_⟩
      intro τ2 e2
      rw [mm_sq_2 ha] at e2
      refine ⟨pp_in (by omega) (by omega), ?_⟩
      intro w hw
      have t2 : hh_a τ2 12 i = nI (vv i) := by rw [e2, pp_sA_a (by omega), if_pos ⟨rfl, rfl⟩]
      rw [pp_rA (by omega), t2, nI_add] at hw
      subst hw
      rw [show nI i + 1 = nI (i + 1) from nI_1 i]
      refine hK2 _ _ _ _ ⟨i + 1, by omega, rfl, rfl, rfl, by rw [e2]; exact tI, fun k hk => by rw [e2, pp_sA_f hk]; exact tO k hk, fun p hp => ?_⟩ (by rw [pp_cl (by omega), pp_cl (by omega)]; omega)
      by_cases z : p = i
      · rw [z]; exact t2
      · rw [e2, pp_sA_a (by omega), if_neg (fun q => z q.2)]
        exact tV p (by omega)
  · rw [mm_sq_s ha]
    rintro v rfl
    refine ⟨pp_in (by omega) (by omega), ?_⟩
    intro τ2 e2
    rw [mm_sq_2 ha] at e2
    refine ⟨pp_in (by omega) (by omega), ?_⟩
    intro w hw
    have t2 : hh_a τ2 27 j = nI (vv j) := by rw [e2, pp_sA_a (by omega), if_pos ⟨rfl, rfl⟩]
    rw [pp_rA (by omega), t2, nI_add] at hw
    subst hw
    rw [show nI j + 1 = nI (j + 1) from nI_1 j]
    refine hK _ _ _ _ ⟨j + 1, by omega, rfl, rfl, rfl, by rw [e2]; exact sI, fun k hk => by rw [e2, pp_sA_f hk]; exact sO k hk, fun p hp => ?_⟩ (by rw [pp_cl (by omega), pp_cl (by omega)]; omega)
    by_cases z : p = j
    · rw [z]; exact t2
    · rw [e2, pp_sA_a (by omega), if_neg (fun q => z q.2)]
      exact sV p (by omega)
