/-! ===== guessing, copying: the calls ===== -/
def mm_L1 (m : hh_S) (ni i : Nat) : Nat := if i < ni then mm_L m i else 1
theorem mm_L1_ok {ns ni nh : Nat} {c m : hh_S} (R : rr_C ns ni nh c m) : (∀ j, 1 ≤ mm_L1 m ni j) ∧ (∀ j, j < ni → mm_L1 m ni j ≤ 4) := by
  refine ⟨fun j => ?_, fun j hj => ?_⟩
  · unfold mm_L1
    by_cases h : j < ni
    · obtain ⟨L, L2, -, eN, -⟩ := rr_lb R h
      rw [if_pos h, eN]
      omega
    · rw [if_neg h]
      exact Nat.le_refl 1
  · obtain ⟨L, -, L4, eN, -⟩ := rr_lb R hj
    unfold mm_L1
    rw [if_pos hj, eN]
    exact L4
theorem mm_gw_t {p : Nat → Bool} {L : Nat → Nat} {j : Nat} (h : p j = true) : mm_gw p L (j + 1) = mm_w1 (L j) (mm_gw p L j) := by
  funext k
  rw [mm_gw, if_pos h]
  rfl
theorem mm_gw_f {p : Nat → Bool} {L : Nat → Nat} {j : Nat} (h : p j = false) : mm_gw p L (j + 1) = mm_gw p L j := by
  funext k
  rw [mm_gw, if_neg (by rw [h]; decide)]
theorem mm_sumb {ns ni nh j : Nat} {c m : hh_S} (R : rr_C ns ni nh c m) (p : Nat → Bool) (hj : j ≤ ni) : 0 < fb_sm (mm_gw p (mm_L1 m ni) j) (fb_ct p j + 1) ∧ fb_sm (mm_gw p (mm_L1 m ni) j) (fb_ct p j + 1) < 9223372036854775808 := by
  have h24 := R.2.1.1
  obtain ⟨h1, h2⟩ := mm_L1_ok R
  rw [mm_gw_sum h1]
  refine ⟨mm_ga_pos h1 j, ?_⟩
  have a := mm_ga_le (p := p) h2 j hj
  have b : (4 : Nat) ^ j ≤ 4 ^ 24 := Nat.pow_le_pow_right (by decide) (by omega)
  have e : (4 : Nat) ^ 24 < 9223372036854775808 := by decide
  omega
theorem pp_part {x : Int32} (h1 : ¬ x < 0) (h2 : x ≤ 1) : ¬ 1 < x := fun w => (fa_of_lt w).2.1 h2
theorem ps_guessing (x y : Int32) : RR_l (wp_X8_guessing x y) (wp_X9_guessing x y) := by
  rintro c m R
  obtain ⟨sn, ns, ni, nh, R1, RC, R7, R8, R9⟩ := id R
  obtain ⟨h10, f1, f2, f3⟩ := RC.2.2.1
  obtain ⟨h24, e1, e2, e3⟩ := RC.2.1
  have h8 := RC.1.1
  unfold wp_X8_guessing
  refine s0_has f1 h10 ?_
  cases e : pp_ix x nh
  · refine pp_nt rfl ?_
    unfold wp_X9_guessing
    refine s9_isHand f2 h10 ?_
    rw [e]
    exact pp_nt rfl ⟨rfl, R⟩
  refine pp_nf (by decide) ?_
  obtain ⟨h, hh, rfl⟩ := pp_ix_t e (by omega)
  have O : ¬ (¬ y < 0 ∧ ¬ 1 < y) → wp_X9_guessing (nI h) y m (fun r' m' => (-1000000000000000002 : Int64) = r' ∧ RR_s c m') := by
    intro z
    unfold wp_X9_guessing
    refine s9_isHand f2 h10 ?_
    rw [e]
    exact pp_nf (by decide) (s9_inF z (pp_nt rfl ⟨rfl, R⟩))
  by_cases y0 : y < 0
  · exact pp_t y0 (O (fun z => z.1 y0))
  refine pp_f y0 ?_
  by_cases y1 : ¬ y ≤ 1
  · exact pp_f y1 (O (fun z => z.2 (fa_of_nle y1)))
  have y1 := Classical.not_not.mp y1
  refine pp_t y1 (s3_begin ?_)
  intro c0 fc0 wc0
  let p : Nat → Bool := mm_tk m h
  let L : Nat → Nat := mm_L1 m ni
  obtain ⟨l1, l4⟩ := mm_L1_ok RC
  have dd : ∀ j, fb_ct p j ≤ j := fun j => fb_ct_le p j
  obtain ⟨sp, sb⟩ := mm_sumb (j := ni) RC p (Nat.le_refl ni)
  have nle : fb_ct (mm_rt m h) ni ≤ fb_ct p ni := fb_ct_sub (fun k _ hk => by
    unfold mm_rt at hk
    exact (Bool.and_eq_true _ _ ▸ hk).1)
  refine hh_lp1_i (fun a σ => ∃ j, j ≤ ni ∧ a = nI j ∧ rr_fc c σ ∧ rr_wc (fb_ct p j) (mm_gw p L j) σ) (fun a σ => ni - a.toNatClampNeg) ?_ ⟨0, by omega, rfl, fc0, wc0⟩
  rintro K a σ ⟨j, hj, rfl, sf, sw⟩ hK
  have RCs : rr_C ns ni nh σ m := rr_fc_C sf RC
  unfold wq_X8_guessing_37
  have n1 : hh_I σ 256 = nI ni := (sf.1 256 (by omega)).trans e1
  rw [n1]
  refine pp_c _ (pp_le (by omega) (by omega)) (fun hx => ?_) (fun hx => ?_)
  · have hx : j = ni := by omega
    subst hx
    have dj := dd j
    refine s8_rightOf RCs hh (s3_hitAtLeast (by omega) (by omega) sw sp sb ?_)
    intro c' fc' u1 u2
    have fcc : rr_fc c c' := rr_fc_t sf fc'
    unfold wp_X9_guessing
    have M : ∀ Q : Int64 → hh_S → Prop, (∀ m', rr_fm m m' → ((y = 0 → Q (lN (fb_sm (mm_hl (mm_gw p L j) (fb_ct (mm_rt m h) j)) (fb_ct p j + 1) / Nat.gcd (fb_sm (mm_hl (mm_gw p L j) (fb_ct (mm_rt m h) j)) (fb_ct p j + 1)) (fb_sm (mm_gw p L j) (fb_ct p j + 1)))) m') ∧ (¬ y = 0 → Q (lN (fb_sm (mm_gw p L j) (fb_ct p j + 1) / Nat.gcd (fb_sm (mm_hl (mm_gw p L j) (fb_ct (mm_rt m h) j)) (fb_ct p j + 1)) (fb_sm (mm_gw p L j) (fb_ct p j + 1)))) m'))) → wp_X9_guessing (nI h) y m Q := by
      intro Q q
      unfold wp_X9_guessing
      refine s9_isHand f2 h10 ?_
      rw [e]
      refine pp_nf (by decide) (s9_inT y0 (pp_part y0 y1) (pp_nf (by decide) (s9_beginWays ?_)))
      intro m0 fm0 wm0
      refine hh_lp1_i (fun a τ => ∃ i, i ≤ j ∧ a = nI i ∧ rr_fm m τ ∧ rr_wm (fb_ct p i) (mm_gw p L i) (mm_ga p L i) τ) (fun a τ => j - a.toNatClampNeg) ?_ ⟨0, by omega, rfl, fm0, wm0⟩
      rintro K2 a τ ⟨i, hi, rfl, tf, tw⟩ hK2
      have RCt : rr_C ns j nh c τ := rr_fm_C tf RC
      unfold wq_X9_guessing_31
      have n2 : hh_I τ 7 = nI j := (tf.1 7 (by omega)).trans e2
      rw [n2]
      refine pp_c _ (pp_le (by omega) (by omega)) (fun hy => ?_) (fun hy => ?_)
      · have hy : i = j := by omega
        subst hy
        refine s9_rightBy RCt hh ?_
        rw [fb_ct_cong (fun k _ => mm_rt_f tf h k)]
        rw [← mm_gw_sum l1] at tw
        exact s9_oddsFrom (by omega) (by omega) tw sp sb (q τ tf)
      · rw [show nI i + 1 = nI (i + 1) from nI_1 i, pp_rA (by omega)]
        have di := dd i
        have mu : j - (nI (i + 1)).toNatClampNeg < j - (nI i).toNatClampNeg := by rw [pp_cl (by omega), pp_cl (by omega)]; omega
        have t8 : hh_a τ 8 i = hh_a m 8 i := by unfold hh_a; rw [tf.2]
        have stay : p i = false → K2 (nI (i + 1)) τ := fun hp => hK2 _ _ ⟨i + 1, by omega, rfl, tf, by rw [fb_ct_succ, hp, mm_gw_f hp, mm_ga, if_neg (show ¬ p i = true by rw [hp]; decide)]; exact tw⟩ mu
        refine ⟨pp_in (by omega) (by omega), ?_⟩
        rw [t8]
        by_cases k0 : hh_a m 8 i < 0
        · exact pp_t k0 (stay (by show mm_tk m h i = false; unfold mm_tk; rw [decide_eq_false (fun z => z k0), Bool.and_false]))
        · refine pp_f k0 (s9_counts (by omega) (by omega) ?_)
          have pe : p i = mm_cnt m h i := by show mm_tk m h i = _; unfold mm_tk; rw [decide_eq_true k0, Bool.and_true]
          rw [mm_cnt_f tf, ← pe]
          refine pp_bz stay (fun hp => ?_)
          obtain ⟨L', L2, L4, eN, -, -, st, hst, e6, e3', -⟩ := rr_lb RC (show i < j by omega)
          have eL : L i = L' := by show mm_L1 m j i = L'; unfold mm_L1; rw [if_pos (by omega), eN]
          refine s9_labelsOf (by omega) (by unfold hh_a; rw [tf.2]; exact e6) (by omega) ?_
          rw [show hh_a τ 3 st = nI L' by unfold hh_a; rw [tf.2]; exact e3', ← eL]
          refine s9_drawFrom (by omega) (l1 i) (l4 i (by omega)) tw (fun k hk => mm_gw_0 p L i k hk) ?_
          intro m' fm' wm'
          exact hK2 _ _ ⟨i + 1, by omega, rfl, rr_fm_t tf fm', by rw [fb_ct_succ, hp, mm_gw_t hp, mm_ga, if_pos hp]; exact wm'⟩ mu
    refine s3_part ⟨fun z => M _ (fun m' fm' => ⟨fun _ => ⟨u1, rr_f fcc fm' R⟩, fun w => absurd z w⟩), fun z => M _ (fun m' fm' => ⟨fun w => absurd w z, fun _ => ⟨u2, rr_f fcc fm' R⟩⟩)⟩
  · rw [show nI j + 1 = nI (j + 1) from nI_1 j]
    have dj := dd j
    have mu : ni - (nI (j + 1)).toNatClampNeg < ni - (nI j).toNatClampNeg := by rw [pp_cl (by omega), pp_cl (by omega)]; omega
    refine s8_isToKnown RCs hh (by omega) ?_
    refine pp_bz (fun hp => ?_) (fun hp => ⟨pp_in (by omega) (by omega), ?_⟩)
    · exact hK _ _ ⟨j + 1, by omega, rfl, sf, by rw [fb_ct_succ, show p j = false from hp, mm_gw_f (show p j = false from hp)]; exact sw⟩ mu
    · have hp : p j = true := hp
      obtain ⟨L', L2, L4, eN, -, eC, -⟩ := rr_lb RC (show j < ni by omega)
      have eL : L j = L' := by show mm_L1 m ni j = L'; unfold mm_L1; rw [if_pos (by omega), eN]
      rw [pp_rA (by omega), show hh_a σ 22 j = nI L' by unfold hh_a; rw [sf.2]; exact eC, ← eL]
      refine s3_draw (by omega) (l1 j) (l4 j (by omega)) sw (mm_gw_0 p L j _ (by omega)) ?_
      intro c' fc' wc'
      exact hK _ _ ⟨j + 1, by omega, rfl, rr_fc_t sf fc', by rw [fb_ct_succ, hp, mm_gw_t hp]; exact wc'⟩ mu
theorem pp_stop {q : Nat → Bool} {n j : Nat} (hj : j ≤ fa_first q n) : j = fa_first q n ↔ (j = n ∨ (j < n ∧ q j = true)) := by
  have h1 := fa_first_no q n
  have h2 := fa_first_yes q n
  have h3 := fa_first_le q n
  constructor
  · intro h
    by_cases z : j = n
    · exact Or.inl z
    · refine Or.inr ⟨by omega, ?_⟩
      rw [h]
      exact h2 (by omega)
  · rintro (h | ⟨h, hq⟩)
    · omega
    · rcases Nat.lt_or_ge j (fa_first q n) with g | g
      · have := h1 j g
        rw [hq] at this
        cases this
      · omega
theorem ps_copying (x y z : Int32) : RR_l (wp_X8_copying x y z) (wp_X9_copying x y z) := by
  rintro c m R
  obtain ⟨sn, ns, ni, nh, R1, RC, R7, R8, R9⟩ := id R
  obtain ⟨h10, f1, f2, f3⟩ := RC.2.2.1
  obtain ⟨h24, e1, e2, e3⟩ := RC.2.1
  have h8 := RC.1.1
  unfold wp_X8_copying
  refine s0_has f1 h10 ?_
  cases ex : pp_ix x nh
  · refine pp_t rfl ?_
    unfold wp_X9_copying
    refine s9_isHand f2 h10 ?_
    rw [ex]
    exact pp_t rfl ⟨rfl, R⟩
  refine pp_f (by decide) (s0_has f1 h10 ?_)
  obtain ⟨a, ha, rfl⟩ := pp_ix_t ex (by omega)
  cases ey : pp_ix y nh
  · refine pp_t rfl ?_
    unfold wp_X9_copying
    refine s9_isHand f2 h10 ?_
    rw [ex]
    refine pp_f (by decide) (s9_isHand f2 h10 ?_)
    rw [ey]
    exact pp_t rfl ⟨rfl, R⟩
  refine pp_f (by decide) ?_
  obtain ⟨b, hb, rfl⟩ := pp_ix_t ey (by omega)
  have M0 : ∀ Q : Int64 → hh_S → Prop, ((¬ nI a = nI b → (wp_X9_in z 0 1 m (fun (r29 : Int32) (σ30 : hh_S) => ((¬ r29 = 0 → (wp_X9_beginWays σ30 (fun (σ33 : hh_S) => (∃ n : Nat, hh_lp2 (wq_X9_copying_48 (nI a) (nI b) z Q) n 0 0 σ33)))) ∧ (r29 = 0 → (Q (-1000000000000000002) σ30)))))) ∧ (nI a = nI b → (Q (-1000000000000000001) m))) → wp_X9_copying (nI a) (nI b) z m Q := by
    intro Q q
    unfold wp_X9_copying
    refine s9_isHand f2 h10 ?_
    rw [ex]
    refine pp_f (by decide) (s9_isHand f2 h10 ?_)
    rw [ey]
    exact pp_f (by decide) q
  by_cases hab : nI a = nI b
  · exact pp_nt hab (M0 _ (pp_nt hab ⟨rfl, R⟩))
  refine pp_nf hab ?_
  by_cases y0 : z < 0
  · exact pp_t y0 (M0 _ (pp_nf hab (s9_inF (fun w => w.1 y0) (pp_nt rfl ⟨rfl, R⟩))))
  refine pp_f y0 ?_
  by_cases y1 : ¬ z ≤ 1
  · exact pp_f y1 (M0 _ (pp_nf hab (s9_inF (fun w => w.2 (fa_of_nle y1)) (pp_nt rfl ⟨rfl, R⟩))))
  have y1 := Classical.not_not.mp y1
  refine pp_t y1 (s3_begin ?_)
  intro c0 fc0 wc0
  let p : Nat → Bool := fun i => mm_cnt m a i && mm_cnt m b i
  let s : Nat → Bool := fun i => p i && decide (hh_a m 13 (24 * a + i) = hh_a m 13 (24 * b + i))
  let L : Nat → Nat := mm_L1 m ni
  let st : Nat → Bool := fun j => decide (14 ≤ fb_ct p j)
  let E : Nat := fa_first st ni
  have hE : E ≤ ni := fa_first_le st ni
  obtain ⟨l1, l4⟩ := mm_L1_ok RC
  have dd : ∀ j, fb_ct p j ≤ j := fun j => fb_ct_le p j
  obtain ⟨sp, sb⟩ := mm_sumb (j := E) RC p hE
  have nle : fb_ct s E ≤ fb_ct p E := fb_ct_sub (fun k _ hk => (Bool.and_eq_true _ _ ▸ hk).1)
  have M : ∀ Q : Int64 → hh_S → Prop, (∀ m', rr_fm m m' → ((z = 0 → Q (lN (fb_sm (mm_hl (mm_gw p L E) (fb_ct s E)) (fb_ct p E + 1) / Nat.gcd (fb_sm (mm_hl (mm_gw p L E) (fb_ct s E)) (fb_ct p E + 1)) (fb_sm (mm_gw p L E) (fb_ct p E + 1)))) m') ∧ (¬ z = 0 → Q (lN (fb_sm (mm_gw p L E) (fb_ct p E + 1) / Nat.gcd (fb_sm (mm_hl (mm_gw p L E) (fb_ct s E)) (fb_ct p E + 1)) (fb_sm (mm_gw p L E) (fb_ct p E + 1)))) m'))) → wp_X9_copying (nI a) (nI b) z m Q := by
    intro Q q
    refine M0 _ (pp_nf hab (s9_inT y0 (pp_part y0 y1) (pp_nf (by decide) (s9_beginWays ?_))))
    intro m0 fm0 wm0
    refine hh_lp2_i (fun u v τ => ∃ i, i ≤ E ∧ v = nI i ∧ u = nI (fb_ct s i) ∧ rr_fm m τ ∧ rr_wm (fb_ct p i) (mm_gw p L i) (mm_ga p L i) τ) (fun u v τ => ni - v.toNatClampNeg) ?_ ⟨0, by omega, rfl, rfl, fm0, wm0⟩
    rintro K2 u v τ ⟨i, hi, rfl, rfl, tf, tw⟩ hK2
    unfold wq_X9_copying_48
    have n2 : hh_I τ 7 = nI ni := (tf.1 7 (by omega)).trans e2
    have n3 : hh_I τ 35 = nI (fb_ct p i) := tw.1
    have di := dd i
    rw [n2, n3, show (14 : Int32) = nI 14 from rfl]
    have fin : i = E → wp_X9_oddsFrom (nI (fb_ct s i)) z τ (fun r5 σ6 => Q r5 σ6) := by
      intro hy
      subst hy
      have tw' := tw
      rw [← mm_gw_sum l1] at tw'
      exact s9_oddsFrom (by omega) (by omega) tw' sp sb (q τ tf)
    refine pp_c _ (pp_le (by omega) (by omega)) (fun hy => fin ((pp_stop hi).mpr (Or.inl (by omega)))) (fun hy => ?_)
    refine pp_c _ (pp_le (by omega) (by omega)) (fun h14 => fin ((pp_stop hi).mpr (Or.inr ⟨by omega, decide_eq_true h14⟩))) (fun h14 => ?_)
    have hiE : i < E := by
      rcases Nat.lt_or_ge i E with g | g
      · exact g
      · exfalso
        rcases (pp_stop hi).mp (by omega) with g2 | ⟨-, g2⟩
        · omega
        · exact h14 (of_decide_eq_true g2)
    rw [show nI i + 1 = nI (i + 1) from nI_1 i]
    have mu : ni - (nI (i + 1)).toNatClampNeg < ni - (nI i).toNatClampNeg := by rw [pp_cl (by omega), pp_cl (by omega)]; omega
    have stay : p i = false → K2 (nI (fb_ct s i)) (nI (i + 1)) τ := fun hp => hK2 _ _ _ ⟨i + 1, by omega, rfl, by rw [fb_ct_succ, show s i = false by show (p i && _) = false; rw [hp, Bool.false_and]]; rfl, tf, by rw [fb_ct_succ, hp, mm_gw_f hp, mm_ga, if_neg (show ¬ p i = true by rw [hp]; decide)]; exact tw⟩ mu
    refine s9_counts (by omega) (by omega) ?_
    rw [mm_cnt_f tf]
    refine pp_bz (fun h1 => stay (by show (mm_cnt m a i && mm_cnt m b i) = false; rw [h1, Bool.false_and])) (fun h1 => s9_counts (by omega) (by omega) ?_)
    rw [mm_cnt_f tf]
    refine pp_bz (fun h2 => stay (by show (mm_cnt m a i && mm_cnt m b i) = false; rw [h2, Bool.and_false])) (fun h2 => ?_)
    have hp : p i = true := by show (mm_cnt m a i && mm_cnt m b i) = true; rw [h1, h2]; rfl
    obtain ⟨L', L2, L4, eN, -, -, stp, hst, e6, e3', -⟩ := rr_lb RC (show i < ni by omega)
    have eL : L i = L' := by show mm_L1 m ni i = L'; unfold mm_L1; rw [if_pos (by omega), eN]
    refine s9_labelsOf (by omega) (by unfold hh_a; rw [tf.2]; exact e6) (by omega) ?_
    rw [show hh_a τ 3 stp = nI L' by unfold hh_a; rw [tf.2]; exact e3', ← eL]
    refine s9_drawFrom (by omega) (l1 i) (l4 i (by omega)) tw (fun k hk => mm_gw_0 p L i k hk) ?_
    intro m' fm' wm'
    have fmm := rr_fm_t tf fm'
    rw [show (24 : Int32) = nI 24 from rfl, pp_idx, pp_idx, pp_rA (by omega), pp_rA (by omega), show hh_a m' 13 (24 * a + i) = hh_a m 13 (24 * a + i) by unfold hh_a; rw [fmm.2], show hh_a m' 13 (24 * b + i) = hh_a m 13 (24 * b + i) by unfold hh_a; rw [fmm.2]]
    refine ⟨pp_in (by omega) (by omega), pp_in (by omega) (by omega), ?_⟩
    have W2 : rr_wm (fb_ct p (i + 1)) (mm_gw p L (i + 1)) (mm_ga p L (i + 1)) m' := by rw [fb_ct_succ, hp, mm_gw_t hp, mm_ga, if_pos hp]; exact wm'
    by_cases h3 : hh_a m 13 (24 * a + i) = hh_a m 13 (24 * b + i)
    · refine pp_nt h3 ?_
      rintro v rfl
      exact hK2 _ _ _ ⟨i + 1, by omega, rfl, pp_ct_t (show s i = true by show (p i && _) = true; rw [hp, decide_eq_true h3]; rfl), fmm, W2⟩ mu
    · refine pp_nf h3 ?_
      rintro v rfl
      exact hK2 _ _ _ ⟨i + 1, by omega, rfl, pp_ct_f (show s i = false by show (p i && _) = false; rw [decide_eq_false h3, Bool.and_false]), fmm, W2⟩ mu
  refine hh_lp2_i (fun u v σ => ∃ j, j ≤ E ∧ v = nI j ∧ u = nI (fb_ct s j) ∧ rr_fc c σ ∧ rr_wc (fb_ct p j) (mm_gw p L j) σ) (fun u v σ => ni - v.toNatClampNeg) ?_ ⟨0, by omega, rfl, rfl, fc0, wc0⟩
  rintro K u v σ ⟨j, hj, rfl, rfl, sf, sw⟩ hK
  have RCs : rr_C ns ni nh σ m := rr_fc_C sf RC
  unfold wq_X8_copying_57
  have n1 : hh_I σ 256 = nI ni := (sf.1 256 (by omega)).trans e1
  have n3 : hh_I σ 576 = nI (fb_ct p j) := sw.1
  have dj := dd j
  rw [n1, n3, show (14 : Int32) = nI 14 from rfl]
  have sle : fb_ct s j ≤ j := fb_ct_le s j
  have fin : j = E → wp_X3_hitAtLeast (nI (fb_ct s j)) σ (fun σ8 => wp_X3_part z σ8 (fun r9 σ10 => (fun r c' => wp_X9_copying (nI a) (nI b) z m (fun r' m' => r = r' ∧ RR_s c' m')) r9 σ10)) := by
    intro hx
    subst hx
    refine s3_hitAtLeast (by omega) (by omega) sw sp sb ?_
    intro c' fc' u1 u2
    have fcc : rr_fc c c' := rr_fc_t sf fc'
    exact s3_part ⟨fun w => M _ (fun m' fm' => ⟨fun _ => ⟨u1, rr_f fcc fm' R⟩, fun w2 => absurd w w2⟩), fun w => M _ (fun m' fm' => ⟨fun w2 => absurd w2 w, fun _ => ⟨u2, rr_f fcc fm' R⟩⟩)⟩
  refine pp_c _ (pp_le (by omega) (by omega)) (fun hy => fin ((pp_stop hj).mpr (Or.inl (by omega)))) (fun hy => ?_)
  refine pp_c _ (pp_le (by omega) (by omega)) (fun h14 => fin ((pp_stop hj).mpr (Or.inr ⟨by omega, decide_eq_true h14⟩))) (fun h14 => ?_)
  have hjE : j < E := by
    rcases Nat.lt_or_ge j E with g | g
    · exact g
    · exfalso
      rcases (pp_stop hj).mp (by omega) with g2 | ⟨-, g2⟩
      · omega
      · exact h14 (of_decide_eq_true g2)
  rw [show nI j + 1 = nI (j + 1) from nI_1 j]
  have mu : ni - (nI (j + 1)).toNatClampNeg < ni - (nI j).toNatClampNeg := by rw [pp_cl (by omega), pp_cl (by omega)]; omega
  have stay : p j = false → K (nI (fb_ct s j)) (nI (j + 1)) σ := fun hp => hK _ _ _ ⟨j + 1, by omega, rfl, by rw [fb_ct_succ, show s j = false by show (p j && _) = false; rw [hp, Bool.false_and]]; rfl, sf, by rw [fb_ct_succ, hp, mm_gw_f hp]; exact sw⟩ mu
  refine s0_counts RCs ha (by omega) ?_
  refine pp_bz (fun h1 => stay (by show (mm_cnt m a j && mm_cnt m b j) = false; rw [h1, Bool.false_and])) (fun h1 => s0_counts RCs hb (by omega) ?_)
  refine pp_bz (fun h2 => stay (by show (mm_cnt m a j && mm_cnt m b j) = false; rw [h2, Bool.and_false])) (fun h2 => ⟨pp_in (by omega) (by omega), ?_⟩)
  have hp : p j = true := by show (mm_cnt m a j && mm_cnt m b j) = true; rw [h1, h2]; rfl
  obtain ⟨L', L2, L4, eN, -, eC, -⟩ := rr_lb RC (show j < ni by omega)
  have eL : L j = L' := by show mm_L1 m ni j = L'; unfold mm_L1; rw [if_pos (by omega), eN]
  rw [pp_rA (by omega), show hh_a σ 22 j = nI L' by unfold hh_a; rw [sf.2]; exact eC, ← eL]
  refine s3_draw (by omega) (l1 j) (l4 j (by omega)) sw (mm_gw_0 p L j _ (by omega)) ?_
  intro c' fc' wc'
  have fcc := rr_fc_t sf fc'
  rw [pp_cl (by omega), pp_cl (by omega), pp_rA (by omega), pp_rA (by omega), show hh_a c' (45 + a) j = hh_a c (45 + a) j by unfold hh_a; rw [fcc.2], show hh_a c' (45 + b) j = hh_a c (45 + b) j by unfold hh_a; rw [fcc.2]]
  refine ⟨pp_in (by omega) (by omega), pp_in (by omega) (by omega), pp_in (by omega) (by omega), pp_in (by omega) (by omega), ?_⟩
  have W2 : rr_wc (fb_ct p (j + 1)) (mm_gw p L (j + 1)) c' := by rw [fb_ct_succ, hp, mm_gw_t hp]; exact wc'
  have eqv : (hh_a c (45 + a) j = hh_a c (45 + b) j) ↔ (hh_a m 13 (24 * a + j) = hh_a m 13 (24 * b + j)) := by
    unfold mm_cnt at h1 h2
    rw [Bool.and_eq_true] at h1 h2
    have q1 := of_decide_eq_true h1.2
    have q2 := of_decide_eq_true h2.2
    rcases (RC.2.2.2.1 a ha).1 j (by omega) with ⟨b1, b2⟩ | ⟨k, L1, -, hk, hL1, b1, b2⟩
    · exact absurd (by rw [b1]; decide) q1
    · rcases (RC.2.2.2.1 b hb).1 j (by omega) with ⟨d1, d2⟩ | ⟨k', L3, -, hk', hL3, d1, d2⟩
      · exact absurd (by rw [d1]; decide) q2
      · rw [b1, b2, d1, d2, pp_eq (by omega) (by omega), pp_eq (by omega) (by omega)]
        omega
  by_cases h3 : hh_a m 13 (24 * a + j) = hh_a m 13 (24 * b + j)
  · refine pp_nt (eqv.mpr h3) ?_
    rintro v rfl
    exact hK _ _ _ ⟨j + 1, by omega, rfl, pp_ct_t (show s j = true by show (p j && _) = true; rw [hp, decide_eq_true h3]; rfl), fcc, W2⟩ mu
  · refine pp_nf (fun w => h3 (eqv.mp w)) ?_
    rintro v rfl
    exact hK _ _ _ ⟨j + 1, by omega, rfl, pp_ct_f (show s j = false by show (p j && _) = false; rw [decide_eq_false h3, Bool.and_false]), fcc, W2⟩ mu
