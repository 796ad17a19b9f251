/-! ===== the parts of the relation, moved to states that agree ===== -/
theorem rr_1_e {sn : Nat} {c c' m m' : hh_S} (h1 : c'.1 64 = c.1 64) (h2 : m'.1 0 = m.1 0) (h3 : c'.2.2.1 19 = c.2.2.1 19) (h4 : m'.2.2.1 1 = m.2.2.1 1) (R : rr_1 sn c m) : rr_1 sn c' m' := by
  unfold rr_1 hh_a
  rw [h1, h2, h3, h4]
  exact R
theorem rr_7_e {c c' m m' : hh_S} (h1 : c'.2.2.1 43 = c.2.2.1 43) (h2 : c'.2.2.1 44 = c.2.2.1 44) (h3 : m'.2.2.1 15 = m.2.2.1 15) (h4 : m'.2.2.1 16 = m.2.2.1 16) (R : rr_7 c m) : rr_7 c' m' := by
  unfold rr_7 hh_a
  rw [h1, h2, h3, h4]
  exact R
theorem rr_8_e {ni nh : Nat} {c c' m m' : hh_S} (h1 : c'.1 9 = c.1 9) (h2 : m'.1 20 = m.1 20) (h3 : m'.1 21 = m.1 21) (h4 : m'.1 22 = m.1 22) (h5 : m'.2.2.1 18 = m.2.2.1 18) (hA : ∀ h, h < 10 → c'.2.2.1 (79 + h) = c.2.2.1 (79 + h)) (hn : nh ≤ 10) (R : rr_8 ni nh c m) : rr_8 ni nh c' m' := by
  unfold rr_8
  rw [h1, h2, h3, h4]
  rcases R with R | ⟨q, ji, jh, a1, a2, a3, a4, a5, a6⟩
  · exact Or.inl R
  · refine Or.inr ⟨q, ji, jh, a1, a2, a3, a4, a5, fun h hh L t s g1 g2 g3 g4 => ?_⟩
    have e := a6 h hh L t s g1 g2 g3 g4
    unfold hh_a at e ⊢
    rw [hA h (by omega), h5]
    exact e
theorem mm_sh_e {m m' : hh_S} {i l : Nat} (h1 : m'.1 20 = m.1 20) (h2 : m'.1 21 = m.1 21) (h3 : m'.2.2.1 3 = m.2.2.1 3) (h6 : m'.2.2.1 6 = m.2.2.1 6) (h8 : m'.2.2.1 8 = m.2.2.1 8) (h9 : m'.2.2.1 9 = m.2.2.1 9) (h17 : m'.2.2.1 17 = m.2.2.1 17) : mm_sh m' i l = mm_sh m i l := by
  unfold mm_sh mm_fix mm_lb hh_a
  rw [h1, h2, h3, h6, h8, h9, h17]
theorem rr_9_e {ni : Nat} {c c' m m' : hh_S} (hn : ni ≤ 24) (h1 : m'.1 20 = m.1 20) (h2 : m'.1 21 = m.1 21) (h3 : m'.2.2.1 3 = m.2.2.1 3) (h6 : m'.2.2.1 6 = m.2.2.1 6) (h8 : m'.2.2.1 8 = m.2.2.1 8) (h9 : m'.2.2.1 9 = m.2.2.1 9) (h17 : m'.2.2.1 17 = m.2.2.1 17) (h22 : c'.2.2.1 22 = c.2.2.1 22) (hA : ∀ i, i < 24 → c'.2.2.1 (55 + i) = c.2.2.1 (55 + i)) (R : rr_9 ni c m) : rr_9 ni c' m' := by
  intro i hi l L h4 hL hl
  unfold hh_a at hL ⊢
  rw [h22] at hL
  rw [hA i (by omega), mm_sh_e h1 h2 h3 h6 h8 h9 h17]
  exact R i hi l L h4 hL hl
/-! ===== calls that read ===== -/
theorem ps_wipe : RR_i wp_X8_wipe wp_X9_wipe := by
  rintro c m ⟨sn, ns, ni, nh, R1, RC, R7, R8, R9⟩
  unfold wp_X8_wipe
  rintro v rfl c' rfl
  unfold wp_X9_wipe
  rintro v rfl m' rfl
  exact ⟨R1.2.1.trans R1.2.2.1.symm, 0, ns, ni, nh, ⟨by omega, rfl, rfl, fun k hk => absurd hk (Nat.not_lt_zero k)⟩, RC, R7, R8, R9⟩
theorem ps_say (x : Int32) : RR_i (wp_X8_say x) (wp_X9_say x) := by
  rintro c m ⟨sn, ns, ni, nh, R1, RC, R7, R8, R9⟩
  have R : RR_s c m := ⟨sn, ns, ni, nh, R1, RC, R7, R8, R9⟩
  obtain ⟨h60, e1, e2, e3⟩ := R1
  unfold wp_X8_say
  by_cases h1 : x < 33
  · refine pp_t h1 ?_
    unfold wp_X9_say
    exact s9_inF (fun z => z.1 h1) (pp_nt rfl ⟨rfl, R⟩)
  · refine pp_f h1 ?_
    by_cases h2 : x ≤ 126
    · refine pp_t h2 ?_
      unfold wp_X7_add
      show (c.1 64 < 60 → _) ∧ (¬ c.1 64 < 60 → _)
      rw [e1, show (60 : Int32) = nI 60 from rfl]
      refine pp_c _ (pp_lt (by omega) (by omega)) (fun h3 => ?_) (fun h3 => ?_)
      · refine ⟨by show vp_in (c.1 64) 60; rw [e1]; exact pp_in h3 (by omega), ?_⟩
        rintro c1 rfl c2 rfl
        refine pp_f (by decide) ?_
        unfold wp_X9_say
        refine s9_inT h1 (fun z => (fa_of_lt z).2.1 h2) (pp_nf (by decide) ?_)
        show (¬ m.1 0 = 60 → _) ∧ (m.1 0 = 60 → _)
        rw [e2, show (60 : Int32) = nI 60 from rfl]
        refine pp_nc _ (pp_eq (by omega) (by omega)) (fun h4 => ?_) (fun h4 => absurd h4 (by omega))
        refine ⟨by show vp_in (m.1 0) 60; rw [e2]; exact pp_in h3 (by omega), ?_⟩
        rintro m1 rfl m2 rfl
        refine ⟨?_, sn + 1, ns, ni, nh, ⟨by omega, ?_, ?_, ?_⟩, rr_C_m (m := m) ⟨rfl, rfl, rfl⟩ (fun k hk => pp_sA_f (by unfold rr_km at hk; omega)) (rr_C_c (c := c) ⟨rfl, rfl, rfl⟩ (fun k hk => pp_sA_f (by unfold rr_kc at hk; omega)) RC), rr_7_e (c := c) (m := m) rfl rfl rfl rfl R7, rr_8_e (c := c) (m := m) rfl rfl rfl rfl rfl (fun h hh => pp_sA_f (by omega)) RC.2.2.1.1 R8, rr_9_e (c := c) (m := m) RC.2.1.1 rfl rfl rfl rfl rfl rfl rfl rfl (fun i hi => pp_sA_f (by omega)) R9⟩
        · show c.1 64 + 1 = m.1 0 + 1
          rw [e1, e2]
        · show c.1 64 + 1 = _
          rw [e1]
          exact nI_1 sn
        · show m.1 0 + 1 = _
          rw [e2]
          exact nI_1 sn
        · intro k hk
          show hh_a (hh_sA c 19 (c.1 64) x) 19 k = hh_a (hh_sA m 1 (m.1 0) x) 1 k
          rw [e1, e2, pp_sA_a (by omega), pp_sA_a (by omega)]
          by_cases e : k = sn
          · rw [if_pos ⟨rfl, e⟩, if_pos ⟨rfl, e⟩]
          · rw [if_neg (fun z => e z.2), if_neg (fun z => e z.2)]
            exact e3 k (by omega)
      · refine pp_t rfl ?_
        unfold wp_X9_say
        refine s9_inT h1 (fun z => (fa_of_lt z).2.1 h2) (pp_nf (by decide) ?_)
        show (¬ m.1 0 = 60 → _) ∧ (m.1 0 = 60 → _)
        rw [e2, show (60 : Int32) = nI 60 from rfl]
        exact pp_nc _ (pp_eq (by omega) (by omega)) (fun h4 => absurd (by omega) h4) (fun h4 => ⟨rfl, R⟩)
    · refine pp_f h2 ?_
      unfold wp_X9_say
      exact s9_inF (fun z => z.2 (fa_of_nle h2)) (pp_nt rfl ⟨rfl, R⟩)
theorem ps_step (x y : Int32) : RR_i (wp_X8_step x y) (wp_X9_step x y) := by
  rintro c m ⟨sn, ns, ni, nh, R1, RC, R7, R8, R9⟩
  have R : RR_s c m := ⟨sn, ns, ni, nh, R1, RC, R7, R8, R9⟩
  obtain ⟨h8, e1, e2, e3⟩ := RC.1
  unfold wp_X8_step
  refine s6_has e1 h8 ?_
  cases e : pp_ix x ns
  · refine pp_nt rfl ?_
    unfold wp_X9_step
    refine s9_in0 e2 (by omega) ?_
    rw [e]
    exact pp_nt rfl ⟨rfl, R⟩
  · refine pp_nf (by decide) ?_
    obtain ⟨j, hj, rfl⟩ := pp_ix_t e (by omega)
    obtain ⟨g1, g2, g3, g4, -⟩ := e3 j hj
    rw [pp_rA (by omega), pp_rA (by omega), pp_rA (by omega), pp_rA (by omega)]
    have I : vp_in (nI j) 8 := pp_in (by omega) (by omega)
    refine ⟨fun h => ⟨I, ?_⟩, fun h => ⟨I, ?_⟩, fun h => ⟨I, ?_⟩, fun h => ⟨I, ?_⟩, fun h => ?_⟩
    all_goals unfold wp_X9_step
    all_goals refine s9_in0 e2 (by omega) ?_
    all_goals rw [e]
    all_goals refine pp_nf (by decide) ?_
    all_goals rw [pp_rA (by omega), pp_rA (by omega), pp_rA (by omega), pp_rA (by omega)]
    · exact ⟨fun _ => ⟨I, g1, R⟩, fun z => by omega, fun z => by omega, fun z => by omega, fun z => by omega⟩
    · exact ⟨fun z => by omega, fun _ => ⟨I, g2, R⟩, fun z => by omega, fun z => by omega, fun z => by omega⟩
    · exact ⟨fun z => by omega, fun z => by omega, fun _ => ⟨I, g3, R⟩, fun z => by omega, fun z => by omega⟩
    · exact ⟨fun z => by omega, fun z => by omega, fun z => by omega, fun _ => ⟨I, g4, R⟩, fun z => by omega⟩
    · exact ⟨fun z => by omega, fun z => by omega, fun z => by omega, fun z => by omega, fun _ => ⟨rfl, R⟩⟩
theorem ps_share (x y : Int32) : RR_i (wp_X8_share x y) (wp_X9_share x y) := by
  rintro c m ⟨sn, ns, ni, nh, R1, RC, R7, R8, R9⟩
  have R : RR_s c m := ⟨sn, ns, ni, nh, R1, RC, R7, R8, R9⟩
  have h8 := RC.1.1
  obtain ⟨h24, e1, e2, -⟩ := RC.2.1
  unfold wp_X8_share
  cases e : pp_ix x ni
  · refine s1_hasLabelF e1 h24 e (pp_nt rfl ?_)
    unfold wp_X9_share
    exact s9_isLabelF e2 h24 e (pp_t rfl ⟨rfl, R⟩)
  · obtain ⟨i, hi, rfl⟩ := pp_ix_t e (by omega)
    obtain ⟨L, L2, L4, -, -, eC, st, hst, e6, e3, -⟩ := rr_lb RC hi
    refine s1_hasLabel e1 h24 hi eC L4 ?_
    cases el : pp_ix y L
    · refine pp_nt rfl ?_
      unfold wp_X9_share
      refine s9_isLabel e2 h24 hi e6 (by omega) e3 L4 ?_
      rw [el]
      exact pp_t rfl ⟨rfl, R⟩
    · obtain ⟨l, hl, rfl⟩ := pp_ix_t el (by omega)
      refine pp_nf (by decide) ⟨pp_in (by omega) (by omega), pp_in (by omega) (by omega), ?_⟩
      unfold wp_X9_share
      refine s9_isLabel e2 h24 hi e6 (by omega) e3 L4 ?_
      rw [el]
      refine pp_f (by decide) (s9_shareOf RC hi (by omega) ⟨?_, R⟩)
      rw [pp_cl (by omega), pp_rA (by omega)]
      exact R9 i hi l L L4 eC hl
theorem ps_said (x y : Int32) : RR_i (wp_X8_said x y) (wp_X9_said x y) := by
  rintro c m ⟨sn, ns, ni, nh, R1, RC, R7, R8, R9⟩
  have R : RR_s c m := ⟨sn, ns, ni, nh, R1, RC, R7, R8, R9⟩
  obtain ⟨h24, e1, e2, -⟩ := RC.2.1
  obtain ⟨h10, f1, f2, -⟩ := RC.2.2.1
  unfold wp_X8_said
  refine s0_has f1 h10 ?_
  cases e : pp_ix x nh
  · refine pp_t rfl ?_
    unfold wp_X9_said
    refine s9_isHand f2 h10 ?_
    rw [e]
    exact pp_t rfl ⟨rfl, R⟩
  · refine pp_f (by decide) (s1_has e1 h24 ?_)
    obtain ⟨h, hh, rfl⟩ := pp_ix_t e (by omega)
    cases e' : pp_ix y ni
    · refine pp_nt rfl ?_
      unfold wp_X9_said
      refine s9_isHand f2 h10 ?_
      rw [e]
      refine pp_f (by decide) (s9_isItem e2 h24 ?_)
      rw [e']
      exact pp_nt rfl ⟨rfl, R⟩
    · obtain ⟨i, hi, rfl⟩ := pp_ix_t e' (by omega)
      refine pp_nf (by decide) ⟨pp_in (by omega) (by omega), pp_in (by omega) (by omega), ?_⟩
      unfold wp_X9_said
      refine s9_isHand f2 h10 ?_
      rw [e]
      refine pp_f (by decide) (s9_isItem e2 h24 ?_)
      rw [e']
      refine pp_nf (by decide) ?_
      rw [show (24 : Int32) = nI 24 from rfl, pp_idx, pp_rA (by omega), pp_cl (by omega), pp_rA (by omega)]
      refine ⟨pp_in (by omega) (by omega), ?_⟩
      rcases (RC.2.2.2.1 h hh).1 i hi with ⟨b1, b2⟩ | ⟨k, L, -, hk, hL, b1, b2⟩
      · rw [b1, b2]
        exact pp_nt rfl ⟨rfl, R⟩
      · rw [b1, b2]
        exact pp_nf (nI_ne0 (by omega) (by omega)) ⟨pp_in (by omega) (by omega), (nI_pred k).symm, R⟩
theorem ps_ofItem (x y : Int32) : RR_i (wp_X8_ofItem x y) (wp_X9_ofItem x y) := by
  rintro c m ⟨sn, ns, ni, nh, R1, RC, R7, R8, R9⟩
  have R : RR_s c m := ⟨sn, ns, ni, nh, R1, RC, R7, R8, R9⟩
  have h8 := RC.1.1
  obtain ⟨h24, e1, e2, e3⟩ := RC.2.1
  obtain ⟨h10, f1, f2, -⟩ := RC.2.2.1
  unfold wp_X8_ofItem
  refine s1_has e1 h24 ?_
  cases e : pp_ix x ni
  · refine pp_nt rfl ?_
    unfold wp_X9_ofItem
    refine s9_isItem e2 h24 ?_
    rw [e]
    exact pp_nt rfl ⟨rfl, R⟩
  · refine pp_nf (by decide) ?_
    obtain ⟨i, hi, rfl⟩ := pp_ix_t e (by omega)
    obtain ⟨st, L, s1, s2, s3, g1, g2, g3, g4, g5, g6, g7, g8, -⟩ := e3 i hi
    have I : vp_in (nI i) 24 := pp_in (by omega) (by omega)
    have M : ∀ (P : Prop) (Q : Int32 → hh_S → Prop), ((y.toInt = 0 → Q (hh_a m 6 i) m) ∧ (y.toInt = 1 → Q (hh_a m 7 i) m) ∧ (y.toInt = 2 → Q (nI L) m) ∧ (y.toInt = 3 → Q (hh_a m 8 i) m) ∧ (y.toInt = 4 → Q (hh_a m 9 i) m) ∧ (y.toInt = 5 → Q (pp_i (mm_open m ns ni i)) m) ∧ (y.toInt = 6 → Q (nI (fb_ct (fun h => mm_cnt m h i) nh)) m) ∧ (y.toInt = 7 → Q (nI (mm_end m i)) m) ∧ (y.toInt = 8 → Q (mm_sure m i) m) ∧ (y.toInt = 9 → Q (hh_a m 10 i) m) ∧ ((y.toInt < 0 ∨ 9 < y.toInt) → Q (-2) m)) → wp_X9_ofItem (nI i) y m Q := by
      intro _ Q q
      obtain ⟨q0, q1, q2, q3, q4, q5, q6, q7, q8, q9, q10⟩ := q
      unfold wp_X9_ofItem
      refine s9_isItem e2 h24 ?_
      rw [e]
      refine pp_nf (by decide) ?_
      rw [pp_rA (by omega), pp_rA (by omega), pp_rA (by omega), pp_rA (by omega), pp_rA (by omega)]
      refine ⟨fun z => ⟨I, q0 z⟩, fun z => ⟨I, q1 z⟩, fun z => s9_labelsOf (by omega) g1 (by omega) (by rw [g3]; exact q2 z), fun z => ⟨I, q3 z⟩, fun z => ⟨I, q4 z⟩, fun z => s9_isOpen RC hi ?_, fun z => s9_countOf f2 h10 (by omega) (q6 z), fun z => s9_endOf RC hi (q7 z), fun z => s9_sureOf RC hi (q8 z), fun z => ⟨I, q9 z⟩, q10⟩
      refine pp_bz (fun w => ?_) (fun w => ?_)
      · have := q5 z; rw [w] at this; exact this
      · have := q5 z; rw [w] at this; exact this
    rw [pp_rA (by omega), pp_rA (by omega), pp_rA (by omega), pp_rA (by omega), pp_rA (by omega), pp_rA (by omega)]
    refine ⟨fun z => ⟨I, M True _ ?_⟩, fun z => ⟨I, M True _ ?_⟩, fun z => ⟨I, M True _ ?_⟩, fun z => ⟨I, M True _ ?_⟩, fun z => ⟨I, M True _ ?_⟩, fun z => s8_isOpen RC R9 hi ?_, fun z => s0_countTo RC hi (M True _ ?_), fun z => s8_greatest RC R9 hi (M True _ ?_), fun z => s8_sureOf RC R9 hi (M True _ ?_), fun z => ⟨I, M True _ ?_⟩, fun z => M True _ ?_⟩
    · exact ⟨fun _ => ⟨g2.trans g1.symm, R⟩, fun w => by omega, fun w => by omega, fun w => by omega, fun w => by omega, fun w => by omega, fun w => by omega, fun w => by omega, fun w => by omega, fun w => by omega, fun w => by omega⟩
    · exact ⟨fun w => by omega, fun _ => ⟨g5, R⟩, fun w => by omega, fun w => by omega, fun w => by omega, fun w => by omega, fun w => by omega, fun w => by omega, fun w => by omega, fun w => by omega, fun w => by omega⟩
    · exact ⟨fun w => by omega, fun w => by omega, fun _ => ⟨g4, R⟩, fun w => by omega, fun w => by omega, fun w => by omega, fun w => by omega, fun w => by omega, fun w => by omega, fun w => by omega, fun w => by omega⟩
    · exact ⟨fun w => by omega, fun w => by omega, fun w => by omega, fun _ => ⟨g6, R⟩, fun w => by omega, fun w => by omega, fun w => by omega, fun w => by omega, fun w => by omega, fun w => by omega, fun w => by omega⟩
    · exact ⟨fun w => by omega, fun w => by omega, fun w => by omega, fun w => by omega, fun _ => ⟨g7, R⟩, fun w => by omega, fun w => by omega, fun w => by omega, fun w => by omega, fun w => by omega, fun w => by omega⟩
    · refine pp_bz (fun w => M True _ ?_) (fun w => M True _ ?_)
      · exact ⟨fun w => by omega, fun w => by omega, fun w => by omega, fun w => by omega, fun w => by omega, fun _ => ⟨by rw [w]; rfl, R⟩, fun w => by omega, fun w => by omega, fun w => by omega, fun w => by omega, fun w => by omega⟩
      · exact ⟨fun w => by omega, fun w => by omega, fun w => by omega, fun w => by omega, fun w => by omega, fun _ => ⟨by rw [w]; rfl, R⟩, fun w => by omega, fun w => by omega, fun w => by omega, fun w => by omega, fun w => by omega⟩
    · exact ⟨fun w => by omega, fun w => by omega, fun w => by omega, fun w => by omega, fun w => by omega, fun w => by omega, fun _ => ⟨rfl, R⟩, fun w => by omega, fun w => by omega, fun w => by omega, fun w => by omega⟩
    · exact ⟨fun w => by omega, fun w => by omega, fun w => by omega, fun w => by omega, fun w => by omega, fun w => by omega, fun w => by omega, fun _ => ⟨rfl, R⟩, fun w => by omega, fun w => by omega, fun w => by omega⟩
    · exact ⟨fun w => by omega, fun w => by omega, fun w => by omega, fun w => by omega, fun w => by omega, fun w => by omega, fun w => by omega, fun w => by omega, fun _ => ⟨rfl, R⟩, fun w => by omega, fun w => by omega⟩
    · exact ⟨fun w => by omega, fun w => by omega, fun w => by omega, fun w => by omega, fun w => by omega, fun w => by omega, fun w => by omega, fun w => by omega, fun w => by omega, fun _ => ⟨g8, R⟩, fun w => by omega⟩
    · exact ⟨fun w => by omega, fun w => by omega, fun w => by omega, fun w => by omega, fun w => by omega, fun w => by omega, fun w => by omega, fun w => by omega, fun w => by omega, fun w => by omega, fun _ => ⟨rfl, R⟩⟩
