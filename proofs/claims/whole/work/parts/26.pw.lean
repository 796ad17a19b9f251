/-! ===== calls that write ===== -/
theorem rr_5_e {ni nh : Nat} {c c' m m' : hh_S} (hn : nh ≤ 10) (h22 : c'.2.2.1 22 = c.2.2.1 22) (hA : ∀ h, h < 10 → c'.2.2.1 (45 + h) = c.2.2.1 (45 + h)) (h13 : m'.2.2.1 13 = m.2.2.1 13) (R : rr_5 ni nh c m) : rr_5 ni nh c' m' := by
  intro h hh
  have r := R h hh
  unfold hh_a at r ⊢
  rw [h22, hA h (by omega), h13]
  exact r
theorem mm_sh_p {m m' : hh_S} {i l : Nat} (h1 : m'.1 20 = m.1 20) (h2 : m'.1 21 = m.1 21) (h3 : m'.2.2.1 3 = m.2.2.1 3) (h6 : hh_a m' 6 i = hh_a m 6 i) (h8 : hh_a m' 8 i = hh_a m 8 i) (h9 : hh_a m' 9 i = hh_a m 9 i) (h17 : m'.2.2.1 17 = m.2.2.1 17) : mm_sh m' i l = mm_sh m i l := by
  unfold mm_sh mm_fix mm_lb
  rw [h1, h2, h6, h8, h9]
  unfold hh_a
  rw [h3, h17]
theorem ps_show (x y : Int32) : RR_i (wp_X8_show x y) (wp_X9_show x y) := by
  rintro c m ⟨sn, ns, ni, nh, R1, RC, R7, R8, R9⟩
  have R : RR_s c m := ⟨sn, ns, ni, nh, R1, RC, R7, R8, R9⟩
  obtain ⟨h24, e1, e2, e3⟩ := RC.2.1
  unfold wp_X8_show
  refine s1_has e1 h24 ?_
  cases e : pp_ix x ni
  · refine pp_nt rfl ?_
    unfold wp_X9_show
    refine s9_isItem e2 h24 ?_
    rw [e]
    exact pp_nt rfl ⟨rfl, R⟩
  · refine pp_nf (by decide) ?_
    obtain ⟨i, hi, rfl⟩ := pp_ix_t e (by omega)
    have I : vp_in (nI i) 24 := pp_in (by omega) (by omega)
    have M : ∀ Q : Int32 → hh_S → Prop, wp_X9_in y 0 15 m (fun r s => (¬ r = 0 → (vp_in (nI i) 24 ∧ ∀ v8 : Int32, v8 = hh_rA s 10 (nI i) → (vp_in (nI i) 24 ∧ ∀ s2, s2 = hh_sA s 10 (nI i) y → Q v8 s2))) ∧ (r = 0 → Q (-2) s)) → wp_X9_show (nI i) y m Q := by
      intro Q q
      unfold wp_X9_show
      refine s9_isItem e2 h24 ?_
      rw [e]
      exact pp_nf (by decide) q
    by_cases h1 : y < 0
    · exact pp_t h1 (M _ (s9_inF (fun z => z.1 h1) (pp_nt rfl ⟨rfl, R⟩)))
    · refine pp_f h1 ?_
      by_cases h2 : y ≤ 15
      · refine pp_t h2 ⟨I, ?_⟩
        rintro v rfl
        refine ⟨I, ?_⟩
        rintro c1 rfl
        refine M _ (s9_inT h1 (fun z => (fa_of_lt z).2.1 h2) (pp_nf (by decide) ⟨I, ?_⟩))
        rintro v rfl
        refine ⟨I, ?_⟩
        rintro m1 rfl
        obtain ⟨-, -, -, -, -, -, -, -, -, -, -, -, g, -⟩ := e3 i hi
        rw [pp_rA (by omega), pp_rA (by omega)]
        refine ⟨g, sn, ns, ni, nh, R1, ⟨RC.1, ⟨h24, e1, e2, fun j hj => ?_⟩, RC.2.2.1, rr_5_e (c := c) (m := m) RC.2.2.1.1 rfl (fun h hh => pp_sA_f (by omega)) rfl RC.2.2.2.1, RC.2.2.2.2⟩, R7, rr_8_e (c := c) (m := m) rfl rfl rfl rfl rfl (fun h hh => pp_sA_f (by omega)) RC.2.2.1.1 R8, rr_9_e (c := c) (m := m) h24 rfl rfl rfl rfl rfl rfl rfl rfl (fun i hi => pp_sA_f (by omega)) R9⟩
        obtain ⟨st, L, q1, q2, q3, q4, q5, q6, q7, q8, q9, q10, q11, q12, q13⟩ := e3 j hj
        refine ⟨st, L, q1, q2, q3, q4, q5, q6, q7, q8, q9, q10, ?_, q12, q13⟩
        rw [pp_sA_a (by omega), pp_sA_a (by omega)]
        by_cases e4 : j = i
        · rw [if_pos ⟨rfl, e4⟩, if_pos ⟨rfl, e4⟩]
        · rw [if_neg (fun z => e4 z.2), if_neg (fun z => e4 z.2)]
          exact q11
      · exact pp_f h2 (M _ (s9_inF (fun z => z.2 (fa_of_nle h2)) (pp_nt rfl ⟨rfl, R⟩)))
theorem ps_out (x : Int32) (b : Bool) : RR_i (wp_X8_out x (pp_i b)) (wp_X9_out x (pp_i b)) := by
  rintro c m ⟨sn, ns, ni, nh, R1, RC, R7, R8, R9⟩
  have R : RR_s c m := ⟨sn, ns, ni, nh, R1, RC, R7, R8, R9⟩
  obtain ⟨h10, f1, f2, f3⟩ := RC.2.2.1
  unfold wp_X8_out
  refine s0_has f1 h10 ?_
  cases e : pp_ix x nh
  · refine pp_nt rfl ?_
    unfold wp_X9_out
    refine s9_isHand f2 h10 ?_
    rw [e]
    exact pp_nt rfl ⟨rfl, R⟩
  · refine pp_nf (by decide) ?_
    obtain ⟨h, hh, rfl⟩ := pp_ix_t e (by omega)
    have I : vp_in (nI h) 10 := pp_in (by omega) (by omega)
    obtain ⟨g1, g2, g3, g4⟩ := f3 h hh
    refine ⟨I, ?_⟩
    intro v hv
    rw [pp_rA (by omega), g1] at hv
    subst hv
    refine ⟨I, ?_⟩
    rintro c1 rfl
    have RN : RR_s (hh_sA c 26 (nI h) (vp_nar .boolean (pp_i b))) (hh_sA m 11 (nI h) (vp_nar .boolean (pp_i b))) := by
      refine ⟨sn, ns, ni, nh, R1, ⟨RC.1, RC.2.1, ⟨h10, f1, f2, fun j hj => ?_⟩, rr_5_e (c := c) (m := m) h10 rfl (fun h hh => pp_sA_f (by omega)) rfl RC.2.2.2.1, RC.2.2.2.2⟩, R7, rr_8_e (c := c) (m := m) rfl rfl rfl rfl rfl (fun h hh => pp_sA_f (by omega)) h10 R8, rr_9_e (c := c) (m := m) RC.2.1.1 rfl rfl rfl rfl rfl rfl rfl rfl (fun i hi => pp_sA_f (by omega)) R9⟩
      obtain ⟨k1, k2, k3, k4⟩ := f3 j hj
      rw [pp_sA_a (by omega), pp_sA_a (by omega), pp_vnar]
      by_cases e4 : j = h
      · rw [if_pos ⟨rfl, e4⟩, if_pos ⟨rfl, e4⟩]
        refine ⟨rfl, ?_, k3, k4⟩
        cases b
        · exact Or.inl rfl
        · exact Or.inr rfl
      · rw [if_neg (fun z => e4 z.2), if_neg (fun z => e4 z.2)]
        exact ⟨k1, k2, k3, k4⟩
    have M : ∀ Q : Int32 → hh_S → Prop, Q (hh_a m 11 h) (hh_sA m 11 (nI h) (vp_nar .boolean (pp_i b))) → wp_X9_out (nI h) (pp_i b) m Q := by
      intro Q q
      unfold wp_X9_out
      refine s9_isHand f2 h10 ?_
      rw [e]
      refine pp_nf (by decide) ⟨I, ?_⟩
      rw [pp_rA (by omega)]
      rcases g2 with z | z
      · rw [z] at q ⊢
        refine pp_t rfl ⟨I, ?_⟩
        rintro m1 rfl
        exact q
      · rw [z] at q ⊢
        refine pp_f (by decide) ⟨I, ?_⟩
        rintro m1 rfl
        exact q
    rcases g2 with z | z
    · exact pp_t z (M _ ⟨z.symm, RN⟩)
    · rw [z]
      refine pp_f (by decide) (M _ ⟨z.symm, RN⟩)
theorem rr_said {ni nh h i : Nat} {x y : Int32} {c m : hh_S} (R5 : rr_5 ni nh c m) (hn : ni ≤ 24) (hk : nh ≤ 10) (hh : h < nh) (hi : i < ni) (hv : (y = 0 ∧ x = -6) ∨ ∃ k L, hh_a c 22 i = nI L ∧ k < L ∧ L ≤ 4 ∧ y = nI (k + 1) ∧ x = nI k) : rr_5 ni nh (hh_sA c (45 + h) (nI i) x) (hh_sA m 13 (nI (24 * h + i)) y) := by
  intro h' hh'
  have e22 : ∀ j, hh_a (hh_sA c (45 + h) (nI i) x) 22 j = hh_a c 22 j := fun j => pp_sA_n (by omega) j
  refine ⟨fun j hj => ?_, fun j hj hj2 => ?_⟩
  · rw [e22, pp_sA_a (by omega), pp_sA_a (by omega)]
    by_cases e1 : h' = h ∧ j = i
    · obtain ⟨rfl, rfl⟩ := e1
      rw [if_pos ⟨rfl, rfl⟩, if_pos ⟨rfl, rfl⟩]
      exact hv
    · rw [if_neg (fun z => e1 ⟨by omega, by omega⟩), if_neg (fun z => e1 ⟨by omega, by omega⟩)]
      exact (R5 h' hh').1 j hj
  · rw [pp_sA_a (by omega), if_neg (fun z => by omega)]
    exact (R5 h' hh').2 j hj hj2
theorem rr_saidN {sn ns ni nh h i : Nat} {x y : Int32} {c m : hh_S} (R : RR_n sn ns ni nh c m) (hh : h < nh) (hi : i < ni) (hv : (y = 0 ∧ x = -6) ∨ ∃ k L, hh_a c 22 i = nI L ∧ k < L ∧ L ≤ 4 ∧ y = nI (k + 1) ∧ x = nI k) : RR_s (hh_sA c (45 + h) (nI i) x) (hh_sA m 13 (nI (24 * h + i)) y) := by
  obtain ⟨R1, RC, R7, R8, R9⟩ := R
  have h10 := RC.2.2.1.1
  have h24 := RC.2.1.1
  have eA : ∀ k, k ≠ 45 + h → (hh_sA c (45 + h) (nI i) x).2.2.1 k = c.2.2.1 k := fun k hk => pp_sA_f hk
  refine ⟨sn, ns, ni, nh, rr_1_e (c := c) (m := m) rfl rfl (eA 19 (by omega)) rfl R1, ⟨?_, ?_, ?_, rr_said RC.2.2.2.1 h24 h10 hh hi hv, ?_⟩, rr_7_e (c := c) (m := m) (eA 43 (by omega)) (eA 44 (by omega)) rfl rfl R7, rr_8_e (c := c) (m := m) rfl rfl rfl rfl rfl (fun h hh => eA _ (by omega)) h10 R8, rr_9_e (c := c) (m := m) h24 rfl rfl rfl rfl rfl rfl rfl (eA 22 (by omega)) (fun i hi => eA _ (by omega)) R9⟩
  · have r := RC.1
    unfold rr_2 hh_a at r ⊢
    rw [eA 11 (by omega), eA 12 (by omega), eA 13 (by omega), eA 14 (by omega)]
    exact r
  · have r := RC.2.1
    unfold rr_3 hh_a at r ⊢
    rw [eA 20 (by omega), eA 21 (by omega), eA 22 (by omega), eA 23 (by omega), eA 24 (by omega), eA 25 (by omega)]
    exact r
  · have r := RC.2.2.1
    unfold rr_4 hh_a at r ⊢
    rw [eA 26 (by omega), eA 27 (by omega)]
    exact r
  · have r := RC.2.2.2.2
    unfold rr_6 hh_a at r ⊢
    rw [eA 29 (by omega)]
    exact r
theorem ps_back (x y : Int32) : RR_i (wp_X8_back x y) (wp_X9_back x y) := by
  rintro c m ⟨sn, ns, ni, nh, RN⟩
  have R : RR_s c m := ⟨sn, ns, ni, nh, RN⟩
  obtain ⟨R1, RC, R7, R8, R9⟩ := id RN
  obtain ⟨h24, e1, e2, -⟩ := RC.2.1
  obtain ⟨h10, f1, f2, -⟩ := RC.2.2.1
  unfold wp_X8_back
  refine s0_has f1 h10 ?_
  cases e : pp_ix x nh
  · refine pp_t rfl ?_
    unfold wp_X9_back
    refine s9_isHand f2 h10 ?_
    rw [e]
    exact pp_t rfl ⟨rfl, R⟩
  · refine pp_f (by decide) (s1_has e1 h24 ?_)
    obtain ⟨h, hh, rfl⟩ := pp_ix_t e (by omega)
    cases e' : pp_ix y ni
    · refine pp_nt rfl ?_
      unfold wp_X9_back
      refine s9_isHand f2 h10 ?_
      rw [e]
      refine pp_f (by decide) (s9_isItem e2 h24 ?_)
      rw [e']
      exact pp_nt rfl ⟨rfl, R⟩
    · obtain ⟨i, hi, rfl⟩ := pp_ix_t e' (by omega)
      refine pp_nf (by decide) ⟨pp_in (by omega) (by omega), pp_in (by omega) (by omega), ?_⟩
      have M : ∀ Q : Int32 → hh_S → Prop, ((¬ hh_a m 13 (24 * h + i) = 0 → Q (hh_a m 13 (24 * h + i) - 1) (hh_sA m 13 (nI (24 * h + i)) 0)) ∧ (hh_a m 13 (24 * h + i) = 0 → Q (-5) (hh_sA m 13 (nI (24 * h + i)) 0))) → wp_X9_back (nI h) (nI i) m Q := by
        intro Q q
        unfold wp_X9_back
        refine s9_isHand f2 h10 ?_
        rw [e]
        refine pp_f (by decide) (s9_isItem e2 h24 ?_)
        rw [e']
        refine pp_nf (by decide) ?_
        rw [show (24 : Int32) = nI 24 from rfl, pp_idx, pp_rA (by omega)]
        refine ⟨pp_in (by omega) (by omega), ?_⟩
        rintro v rfl
        refine ⟨pp_in (by omega) (by omega), ?_⟩
        rintro m1 rfl
        exact q
      rw [pp_cl (by omega), pp_rA (by omega)]
      rcases (RC.2.2.2.1 h hh).1 i hi with ⟨b1, b2⟩ | ⟨k, L, b0, hk, hL, b1, b2⟩
      · rintro v rfl
        refine pp_nt b2 (M _ (pp_nt b1 ⟨rfl, ?_⟩))
        have := rr_saidN RN hh hi (Or.inl ⟨rfl, rfl⟩)
        rw [← b2] at this
        have e9 : hh_sA c (45 + h) (nI i) (hh_a c (45 + h) i) = c := by
          unfold hh_sA hh_uA
          rw [pp_cl (by omega)]
          have : (fun j => if j = 45 + h then upd (c.2.2.1 (45 + h)) i (hh_a c (45 + h) i) else c.2.2.1 j) = c.2.2.1 := by
            funext j
            by_cases z : j = 45 + h
            · rw [if_pos z, z]
              exact fa_upd_same rfl
            · rw [if_neg z]
          rw [this]
        rw [e9] at this
        exact this
      · rintro v rfl
        rw [b2]
        refine pp_nf (pp_n6 (by omega)) ⟨pp_in (by omega) (by omega), pp_in (by omega) (by omega), ?_⟩
        rintro c1 rfl
        refine M _ ?_
        rw [b1]
        exact pp_nf (nI_ne0 (by omega) (by omega)) ⟨(nI_pred k).symm, rr_saidN RN hh hi (Or.inl ⟨rfl, rfl⟩)⟩
theorem ps_answer (x y z : Int32) : RR_i (wp_X8_answer x y z) (wp_X9_answer x y z) := by
  rintro c m ⟨sn, ns, ni, nh, RN⟩
  have R : RR_s c m := ⟨sn, ns, ni, nh, RN⟩
  obtain ⟨R1, RC, R7, R8, R9⟩ := id RN
  have h8 := RC.1.1
  obtain ⟨h24, e1, e2, -⟩ := RC.2.1
  obtain ⟨h10, f1, f2, f3⟩ := RC.2.2.1
  unfold wp_X8_answer
  refine s0_has f1 h10 ?_
  cases e : pp_ix x nh
  · refine pp_t rfl ?_
    unfold wp_X9_answer
    refine s9_isHand f2 h10 ?_
    rw [e]
    exact pp_t rfl ⟨rfl, R⟩
  · refine pp_f (by decide) ?_
    obtain ⟨h, hh, rfl⟩ := pp_ix_t e (by omega)
    cases e' : pp_ix y ni
    · refine s1_hasLabelF e1 h24 e' (pp_nt rfl ?_)
      unfold wp_X9_answer
      refine s9_isHand f2 h10 ?_
      rw [e]
      exact pp_f (by decide) (s9_isLabelF e2 h24 e' (pp_nt rfl ⟨rfl, R⟩))
    · obtain ⟨i, hi, rfl⟩ := pp_ix_t e' (by omega)
      obtain ⟨L, L2, L4, -, -, eC, st, hst, e6, e3, -⟩ := rr_lb RC hi
      refine s1_hasLabel e1 h24 hi eC L4 ?_
      have M : ∀ Q : Int32 → hh_S → Prop, ((¬ pp_i (pp_ix z L) = 0 → wp_X9_isOpen (nI i) m (fun r7 σ8 => ((r7 = 0 → (Q (-3) σ8)) ∧ (¬ r7 = 0 → (vp_in (nI h) 10 ∧ (((hh_rA σ8 11 (nI h)) = 0 → (vp_in (nI (24 * h + i)) 240 ∧ (((hh_rA σ8 13 (nI (24 * h + i))) ≤ 0 → (vp_in (nI (24 * h + i)) 240 ∧ ∀ σ15 : hh_S, σ15 = hh_sA σ8 13 (nI (24 * h + i)) (z + 1) → (Q 1 σ15))) ∧ (¬ (hh_rA σ8 13 (nI (24 * h + i))) ≤ 0 → (Q (-5) σ8))))) ∧ (¬ (hh_rA σ8 11 (nI h)) = 0 → (Q (-3) σ8)))))))) ∧ (pp_i (pp_ix z L) = 0 → Q (-1) m)) → wp_X9_answer (nI h) (nI i) z m Q := by
        intro Q q
        unfold wp_X9_answer
        refine s9_isHand f2 h10 ?_
        rw [e]
        refine pp_f (by decide) (s9_isLabel e2 h24 hi e6 (by omega) e3 L4 ?_)
        rw [show (24 : Int32) = nI 24 from rfl, pp_idx]
        exact q
      cases el : pp_ix z L
      · refine pp_nt rfl (M _ ?_)
        rw [el]
        exact pp_nt rfl ⟨rfl, R⟩
      · obtain ⟨l, hl, rfl⟩ := pp_ix_t el (by omega)
        refine pp_nf (by decide) ⟨pp_in (by omega) (by omega), ?_⟩
        obtain ⟨g1, g2, -⟩ := f3 h hh
        rw [pp_rA (by omega), g1]
        have M2 : ∀ Q : Int32 → hh_S → Prop, ((mm_open m ns ni i = false → Q (-3) m) ∧ (mm_open m ns ni i = true → (hh_a m 11 h = 0 → ((hh_a m 13 (24 * h + i) ≤ 0 → Q 1 (hh_sA m 13 (nI (24 * h + i)) (nI l + 1))) ∧ (¬ hh_a m 13 (24 * h + i) ≤ 0 → Q (-5) m))) ∧ (¬ hh_a m 11 h = 0 → Q (-3) m))) → wp_X9_answer (nI h) (nI i) (nI l) m Q := by
          intro Q q
          refine M Q ?_
          rw [el]
          refine pp_nf (by decide) (s9_isOpen RC hi ?_)
          refine pp_bz q.1 (fun w => ⟨pp_in (by omega) (by omega), ?_⟩)
          rw [pp_rA (by omega), pp_rA (by omega)]
          have q2 := q.2 w
          refine ⟨fun u => ⟨pp_in (by omega) (by omega), fun u2 => ⟨pp_in (by omega) (by omega), ?_⟩, (q2.1 u).2⟩, q2.2⟩
          rintro m1 rfl
          exact (q2.1 u).1 u2
        by_cases h0 : hh_a m 11 h = 0
        · refine pp_nt h0 (s8_isOpen RC R9 hi ?_)
          refine pp_bn (fun w => ⟨pp_in (by omega) (by omega), pp_in (by omega) (by omega), ?_⟩) (fun w => M2 _ ⟨fun _ => ⟨rfl, R⟩, fun w2 => absurd (w.symm.trans w2) (by decide)⟩)
          rw [pp_cl (by omega), pp_rA (by omega)]
          rcases (RC.2.2.2.1 h hh).1 i hi with ⟨b1, b2⟩ | ⟨k, L', b0, hk, hL, b1, b2⟩
          · refine pp_t b2 ⟨pp_in (by omega) (by omega), pp_in (by omega) (by omega), ?_⟩
            rintro c1 rfl
            refine M2 _ ⟨fun w2 => absurd (w.symm.trans w2) (by decide), fun _ => ⟨fun _ => ⟨fun _ => ⟨rfl, ?_⟩, fun u => absurd (by rw [b1]; decide) u⟩, fun u => absurd h0 u⟩⟩
            exact rr_saidN RN hh hi (Or.inr ⟨l, L, eC, hl, L4, nI_1 l, rfl⟩)
          · refine pp_f (by rw [b2]; exact pp_n6 (by omega)) (M2 _ ⟨fun w2 => absurd (w.symm.trans w2) (by decide), fun _ => ⟨fun _ => ⟨fun u => ?_, fun _ => ⟨rfl, R⟩⟩, fun u => absurd h0 u⟩⟩)
            rw [b1] at u
            exact absurd u (nI_nle (by omega) (by omega))
        · refine pp_nf h0 (M2 _ ⟨fun _ => ⟨rfl, R⟩, fun _ => ⟨fun u => absurd u h0, fun _ => ⟨rfl, R⟩⟩⟩)
/-! ===== the rules ===== -/
theorem s5_allows {k : Nat} {y : Int32} {c : hh_S} {Q : Int32 → hh_S → Prop} (hk : k < 6) (q : Q (pp_i (decide (¬ y < hz_low k ∧ ¬ hz_high k < y))) c) : wp_X5_allows (nI k) y c Q := by
  unfold wp_X5_allows
  rw [pp_cl (by omega)]
  refine pp_f (pp_p0 (by omega)) (pp_f (by rw [show (6 : Int32) = nI 6 from rfl, pp_le (by omega) (by omega)]; omega) ⟨pp_in hk (by omega), ?_⟩)
  by_cases h1 : y < hz_low k
  · rw [decide_eq_false (fun z => z.1 h1)] at q
    exact pp_t h1 q
  · refine pp_f h1 ⟨pp_in hk (by omega), ?_⟩
    by_cases h2 : hz_high k < y
    · rw [decide_eq_false (fun z => z.2 h2)] at q
      exact pp_t h2 q
    · rw [decide_eq_true ⟨h1, h2⟩] at q
      exact pp_f h2 q
theorem s5_allowsF {x y : Int32} {c : hh_S} {Q : Int32 → hh_S → Prop} (hk : pp_ix x 6 = false) (q : Q 0 c) : wp_X5_allows x y c Q := by
  unfold wp_X5_allows
  rcases pp_ix_f hk (by omega) with h | h
  · exact pp_t h q
  · by_cases h0 : x < 0
    · exact pp_t h0 q
    · exact pp_f h0 (pp_t h q)
theorem s9_set {k : Nat} {y : Int32} {m : hh_S} {Q : Int32 → hh_S → Prop} (hk : k < 6) (q : wp_X9_in y (hz_low k) (hz_high k) m (fun r σ => (¬ r = 0 → (vp_in (nI k) 6 ∧ (∀ v11 : Int32, v11 = (hh_rA σ 14 (nI k)) → (vp_in (nI k) 6 ∧ ∀ σ13 : hh_S, σ13 = hh_sA σ 14 (nI k) y → (Q v11 σ13))))) ∧ (r = 0 → (Q (-2) σ)))) : wp_X9_set (nI k) y m Q := by
  unfold wp_X9_set
  refine s9_inT (pp_p0 (by omega)) (by rw [show (5 : Int32) = nI 5 from rfl, pp_lt (by omega) (by omega)]; omega) (pp_nf (by decide) ?_)
  rcases (show k = 0 ∨ k = 1 ∨ k = 2 ∨ k = 3 ∨ k = 4 ∨ k = 5 by omega) with rfl | rfl | rfl | rfl | rfl | rfl
  · exact pp_t rfl (pp_nf (by decide) (pp_nf (by decide) q))
  · exact pp_f (by decide) (pp_nf (by decide) (pp_nt rfl q))
  · exact pp_f (by decide) (pp_nt rfl (pp_nf (by decide) (pp_nt rfl q)))
  · exact pp_f (by decide) (pp_nf (by decide) (pp_nf (by decide) (pp_nf (by decide) q)))
  · exact pp_f (by decide) (pp_nf (by decide) (pp_nf (by decide) (pp_nf (by decide) q)))
  · exact pp_f (by decide) (pp_nf (by decide) (pp_nf (by decide) (pp_nf (by decide) q)))
theorem hz_bnd {k : Nat} {y : Int32} (hk : k < 6) (h1 : ¬ y < hz_low k) (h2 : ¬ hz_high k < y) : ∃ v, rr_lo k ≤ v ∧ v ≤ rr_hi k ∧ y = nI v := by
  have key : ∀ lo hi : Nat, lo < 2147483648 → hi < 2147483648 → hz_low k = nI lo → hz_high k = nI hi → ∃ v, lo ≤ v ∧ v ≤ hi ∧ y = nI v := by
    intro lo hi hlo hhi a b
    rw [a] at h1
    rw [b] at h2
    have h3 : ¬ y < 0 := fun z => h1 (by
      rw [fa_lt] at z ⊢
      rw [nI_toInt hlo]
      have : (0 : Int32).toInt = 0 := by decide
      omega)
    obtain ⟨j, hj, rfl⟩ := nI_of h3
    refine ⟨j, ?_, ?_, rfl⟩
    · rcases Nat.lt_or_ge j lo with g | g
      · exact absurd ((pp_lt hj hlo).mpr g) h1
      · exact g
    · rcases Nat.lt_or_ge hi j with g | g
      · exact absurd ((pp_lt hhi hj).mpr g) h2
      · exact g
  rcases (show k = 0 ∨ k = 1 ∨ k = 2 ∨ k = 3 ∨ k = 4 ∨ k = 5 by omega) with rfl | rfl | rfl | rfl | rfl | rfl
  · exact key 1 100 (by decide) (by decide) rfl rfl
  · exact key 0 100000 (by decide) (by decide) rfl rfl
  · exact key 1 60 (by decide) (by decide) rfl rfl
  · exact key 0 100 (by decide) (by decide) rfl rfl
  · exact key 0 100 (by decide) (by decide) rfl rfl
  · exact key 0 100 (by decide) (by decide) rfl rfl
theorem ps_set (x y : Int32) : RR_i (wp_X8_set x y) (wp_X9_set x y) := by
  rintro c m ⟨sn, ns, ni, nh, R1, RC, R7, R8, R9⟩
  have R : RR_s c m := ⟨sn, ns, ni, nh, R1, RC, R7, R8, R9⟩
  have h10 := RC.2.2.1.1
  unfold wp_X8_set
  cases e : pp_ix x 6
  · refine s5_allowsF e (pp_nt rfl ?_)
    unfold wp_X9_set
    refine s9_inF (fun z => ?_) (pp_nt rfl ⟨rfl, R⟩)
    rcases pp_ix_f e (by omega) with h | h
    · exact z.1 h
    · apply z.2
      have h6 : (nI 6).toInt = 6 := by decide
      have h5 : (5 : Int32).toInt = 5 := by decide
      rw [fa_le] at h
      rw [fa_lt]
      omega
  · obtain ⟨k, hk, rfl⟩ := pp_ix_t e (by omega)
    have I : vp_in (nI k) 6 := pp_in hk (by omega)
    refine s5_allows hk ?_
    by_cases h1 : ¬ y < hz_low k ∧ ¬ hz_high k < y
    · rw [decide_eq_true h1]
      refine pp_nf (by decide) ⟨I, ?_⟩
      rintro v rfl
      refine ⟨I, ?_⟩
      rintro c1 rfl
      refine s9_set hk (s9_inT h1.1 h1.2 (pp_nf (by decide) ⟨I, ?_⟩))
      rintro v rfl
      refine ⟨I, ?_⟩
      rintro m1 rfl
      rw [pp_rA (by omega), pp_rA (by omega)]
      refine ⟨(RC.2.2.2.2 k hk).1, sn, ns, ni, nh, R1, ⟨RC.1, RC.2.1, RC.2.2.1, rr_5_e (c := c) (m := m) h10 rfl (fun h hh => pp_sA_f (by omega)) rfl RC.2.2.2.1, fun j hj => ?_⟩, R7, rr_8_e (c := c) (m := m) rfl rfl rfl rfl rfl (fun h hh => pp_sA_f (by omega)) h10 R8, rr_9_e (c := c) (m := m) RC.2.1.1 rfl rfl rfl rfl rfl rfl rfl rfl (fun i hi => pp_sA_f (by omega)) R9⟩
      rw [pp_sA_a (by omega), pp_sA_a (by omega)]
      by_cases e4 : j = k
      · rw [if_pos ⟨rfl, e4⟩, if_pos ⟨rfl, e4⟩, e4]
        exact ⟨rfl, hz_bnd hk h1.1 h1.2⟩
      · rw [if_neg (fun z => e4 z.2), if_neg (fun z => e4 z.2)]
        exact RC.2.2.2.2 j hj
    · rw [decide_eq_false h1]
      exact pp_nt rfl (s9_set hk (s9_inF h1 (pp_nt rfl ⟨rfl, R⟩)))
theorem pp_at {h L t s : Nat} (hL : 2 ≤ L) : nI 48 * nI h + nI 16 * (nI L - nI 2) + nI 4 * nI t + nI s = nI (48 * h + 16 * (L - 2) + 4 * t + s) := by
  rw [pk_sub hL, pk_mul, pk_mul, pk_mul, nI_add, nI_add, nI_add]
theorem pp_spot {L t s : Nat} (hL : 2 ≤ L) : (nI L - nI 2) * nI 16 + nI t * nI 4 + nI s = nI (16 * (L - 2) + 4 * t + s) := by
  rw [pk_sub hL, pk_mul, pk_mul, nI_add, nI_add, Nat.mul_comm (L - 2) 16, Nat.mul_comm t 4]
theorem ps_table (x y z w : Int32) : RR_i (wp_X8_table x y z w) (wp_X9_table x y z w) := by
  rintro c m ⟨sn, ns, ni, nh, R1, RC, R7, R8, R9⟩
  have R : RR_s c m := ⟨sn, ns, ni, nh, R1, RC, R7, R8, R9⟩
  obtain ⟨h10, f1, f2, -⟩ := RC.2.2.1
  unfold wp_X8_table
  refine s0_has f1 h10 ?_
  cases e : pp_ix x nh
  · refine pp_nt rfl ?_
    unfold wp_X9_table
    refine s9_isHand f2 h10 ?_
    rw [e]
    exact pp_nt rfl ⟨rfl, R⟩
  · refine pp_nf (by decide) ?_
    obtain ⟨h, hh, rfl⟩ := pp_ix_t e (by omega)
    have M : ∀ (P : Prop) (Q : Int32 → hh_S → Prop), wp_X9_in y 2 4 m (fun r4 σ5 => ((r4 = 0 → (Q (-2) σ5)) ∧ (¬ r4 = 0 → (wp_X9_in z 0 (y - 1) σ5 (fun r7 σ8 => ((r7 = 0 → (Q (-2) σ8)) ∧ (¬ r7 = 0 → (wp_X9_in w 0 (y - 1) σ8 (fun r10 σ11 => ((¬ r10 = 0 → (((hh_I σ11 20) = 0 → (Q (-6) σ11)) ∧ (¬ (hh_I σ11 20) = 0 → (((hh_I σ11 22) ≤ nI h → (Q (-6) σ11)) ∧ (¬ (hh_I σ11 22) ≤ nI h → (wp_X9_at (nI h) y z w σ11 (fun r15 σ16 => (vp_in r15 480 ∧ (Q (hh_rA σ16 18 r15) σ16))))))))) ∧ (r10 = 0 → (Q (-2) σ11)))))))))))) → wp_X9_table (nI h) y z w m Q := by
      intro _ Q q
      unfold wp_X9_table
      refine s9_isHand f2 h10 ?_
      rw [e]
      exact pp_nf (by decide) q
    by_cases y1 : y < 2
    · exact pp_t y1 (M True _ (s9_inF (fun q => q.1 y1) (pp_t rfl ⟨rfl, R⟩)))
    refine pp_f y1 ?_
    by_cases y2 : 4 < y
    · exact pp_t y2 (M True _ (s9_inF (fun q => q.2 y2) (pp_t rfl ⟨rfl, R⟩)))
    refine pp_f y2 ?_
    have hy : ∃ L, 2 ≤ L ∧ L ≤ 4 ∧ y = nI L := by
      have h3 : ¬ y < 0 := fun q => y1 (by
        rw [fa_lt] at q ⊢
        have : (0 : Int32).toInt = 0 := by decide
        have : (2 : Int32).toInt = 2 := by decide
        omega)
      obtain ⟨j, hj, rfl⟩ := nI_of h3
      refine ⟨j, ?_, ?_, rfl⟩
      · rw [show (2 : Int32) = nI 2 from rfl, pp_lt hj (by omega)] at y1
        omega
      · rw [show (4 : Int32) = nI 4 from rfl, pp_lt (by omega) hj] at y2
        omega
    obtain ⟨L, L2, L4, rfl⟩ := hy
    have N : ∀ Q : Int32 → hh_S → Prop, (pp_ix z L = false → Q (-2) m) → (pp_ix z L = true → pp_ix w L = false → Q (-2) m) → (pp_ix z L = true → pp_ix w L = true → ((m.1 20 = 0 → (Q (-6) m)) ∧ (¬ m.1 20 = 0 → ((m.1 22 ≤ nI h → (Q (-6) m)) ∧ (¬ m.1 22 ≤ nI h → (wp_X9_at (nI h) (nI L) z w m (fun r15 σ16 => (vp_in r15 480 ∧ (Q (hh_rA σ16 18 r15) σ16)))))))) ) → wp_X9_table (nI h) (nI L) z w m Q := by
      intro Q q1 q2 q3
      refine M True _ (s9_inT y1 y2 (pp_f (by decide) (s9_in0 rfl (by omega) ?_)))
      refine pp_bz q1 (fun u => s9_in0 rfl (by omega) ?_)
      exact pp_bn (q3 u) (q2 u)
    refine s_has (x := z) (v := nI L) (k := L) rfl (by omega) (fun u => N _ (fun _ => ⟨rfl, R⟩) (fun u2 => absurd (u.symm.trans u2) (by decide)) (fun u2 => absurd (u.symm.trans u2) (by decide))) ?_
    · intro uz
      obtain ⟨t, ht, rfl⟩ := pp_ix_t uz (by omega)
      cases uw : pp_ix w L
      · have NN := N (fun r' m' => (-2 : Int32) = r' ∧ RR_s c m') (fun _ => ⟨rfl, R⟩) (fun _ _ => ⟨rfl, R⟩) (fun _ u2 => absurd (uw.symm.trans u2) (by decide))
        by_cases w0 : w < 0
        · exact pp_t w0 NN
        · refine pp_f w0 ?_
          rcases pp_ix_f uw (by omega) with q | q
          · exact absurd q w0
          · exact pp_f (pp_nlt.mpr q) NN
      · obtain ⟨s, hs, rfl⟩ := pp_ix_t uw (by omega)
        refine pp_f (pp_p0 (by omega)) (pp_t ((pp_lt (by omega) (by omega)).mpr hs) ?_)
        show (c.1 9 ≤ nI h → _) ∧ (¬ c.1 9 ≤ nI h → _)
        rcases R8 with ⟨j1, j2⟩ | ⟨j0, ji, jh, k1, k2, k3, k4, k5, k6⟩
        · rw [j2]
          refine pp_t (by rw [fa_le, nI_toInt (by omega)]; have : (-1 : Int32).toInt = -1 := by decide
                          omega) (N _ (fun u => absurd (uz.symm.trans u) (by decide)) (fun _ u => absurd (uw.symm.trans u) (by decide)) (fun _ _ => pp_t j1 ⟨rfl, R⟩))
        · rw [k5]
          have j0' : ¬ m.1 20 = 0 := by rw [j0]; decide
          refine pp_c _ (pp_le (by omega) (by omega)) (fun g => ?_) (fun g => ⟨pp_in (by omega) (by omega), ?_⟩)
          · refine N _ (fun u => absurd (uz.symm.trans u) (by decide)) (fun _ u => absurd (uw.symm.trans u) (by decide)) (fun _ _ => pp_f j0' ?_)
            rw [k4]
            exact pp_t ((pp_le (by omega) (by omega)).mpr g) ⟨rfl, R⟩
          · unfold wp_X2_spot
            rw [show (2 : Int32) = nI 2 from rfl, show (16 : Int32) = nI 16 from rfl, show (4 : Int32) = nI 4 from rfl, pp_spot L2]
            refine ⟨pp_in (by omega) (by omega), ?_⟩
            refine N _ (fun u => absurd (uz.symm.trans u) (by decide)) (fun _ u => absurd (uw.symm.trans u) (by decide)) (fun _ _ => pp_f j0' ?_)
            rw [k4]
            refine pp_f (fun q => g ((pp_le (by omega) (by omega)).mp q)) ?_
            unfold wp_X9_at
            rw [show (2 : Int32) = nI 2 from rfl, show (16 : Int32) = nI 16 from rfl, show (4 : Int32) = nI 4 from rfl, show (48 : Int32) = nI 48 from rfl, pp_at L2]
            refine ⟨pp_in (by omega) (by omega), ?_, R⟩
            rw [pp_cl (by omega), pp_rA (by omega), pp_rA (by omega)]
            exact k6 h (by omega) L t s L2 L4 ht hs
