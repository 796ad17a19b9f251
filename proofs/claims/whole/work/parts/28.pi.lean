/-! ===== item, known, settle ===== -/
theorem s2_alike {L : Nat} {c : hh_S} {Q : Int32 → hh_S → Prop} (L2 : 2 ≤ L) (L4 : L ≤ 4) (q : Q (1000000 / nI L) c) : wp_X2_alike (nI L) c Q := by
  unfold wp_X2_alike
  have z : ¬ nI L ≤ nI 0 := fun e => by
    have := (pp_le (by omega) (by omega)).1 e
    omega
  exact ⟨fun e => absurd e z, fun _ => ⟨nI_ne0 (by omega) (by omega), q⟩⟩
theorem s2_startAlike {b i L : Nat} {c : hh_S} {Q : hh_S → Prop} (hi : i < 24) (hL : hh_a c 22 i = nI L) (L2 : 2 ≤ L) (L4 : L ≤ 4) (q : ∀ c' : hh_S, c'.1 = c.1 → c'.2.2.2 = c.2.2.2 → (∀ k, k ≠ (55 + 34 * b) + i → c'.2.2.1 k = c.2.2.1 k) → (∀ l, l < L → hh_a c' ((55 + 34 * b) + i) l = 1000000 / nI L) → Q c') : wp_X2_startAlike b (nI i) c Q := by
  unfold wp_X2_startAlike
  refine ⟨pp_in hi (by omega), ?_⟩
  intro v hv
  rw [pp_rA (by omega), hL] at hv
  subst hv
  refine hh_lp1_i (fun x σ => ∃ j, j ≤ L ∧ x = nI j ∧ σ.1 = c.1 ∧ σ.2.2.2 = c.2.2.2 ∧ (∀ k, k ≠ (55 + 34 * b) + i → σ.2.2.1 k = c.2.2.1 k) ∧ (∀ l, l < j → hh_a σ ((55 + 34 * b) + i) l = 1000000 / nI L)) (fun x σ => L - x.toNatClampNeg) ?_ ⟨0, by omega, rfl, rfl, rfl, fun _ _ => rfl, fun i hi => absurd hi (Nat.not_lt_zero i)⟩
  rintro K x σ ⟨j, hj, rfl, hI, hB, hO, hV⟩ hK
  unfold wq_X2_startAlike_12
  refine pp_c _ (pp_le (by omega) (by omega)) (fun e => ?_) (fun e => ?_)
  · have e : j = L := by omega
    subst e
    exact q σ hI hB hO hV
  · refine ⟨pp_in hi (by omega), s2_alike L2 L4 ⟨pp_in (by omega) (by omega), ?_⟩⟩
    intro σ5 e5
    rw [pp_cl (by omega)] at e5
    rw [show (1 : Int32) = nI 1 from rfl, nI_add]
    refine hK _ _ ⟨j + 1, by omega, rfl, by rw [e5]; exact hI, by rw [e5]; exact hB, fun k h1 => by rw [e5, pp_sA_f h1]; exact hO k h1, fun l hl => ?_⟩ (by rw [pp_cl (by omega), pp_cl (by omega)]; omega)
    rw [e5, pp_sA_a (by omega)]
    by_cases e6 : l = j
    · rw [if_pos ⟨rfl, e6⟩]
    · rw [if_neg (fun z => e6 z.2)]
      exact hV l (by omega)
theorem s2_startGiven {b ns ni nh i L : Nat} {c m : hh_S} {Q : hh_S → Prop} (R : rr_C ns ni nh c m) (hi : i < ni) (hL : hh_a c 22 i = nI L) (L2 : 2 ≤ L) (L4 : L ≤ 4) (q : ∀ c' : hh_S, c'.1 = c.1 → c'.2.2.2 = c.2.2.2 → (∀ k, k ≠ (55 + 34 * b) + i → c'.2.2.1 k = c.2.2.1 k) → (∀ l, l < L → hh_a c' ((55 + 34 * b) + i) l = if mm_fix m i = nI l then 1000000 else 0) → Q c') : wp_X2_startGiven b (nI i) c Q := by
  have h24 := R.2.1.1
  unfold wp_X2_startGiven
  refine s1_given R hi ?_
  refine hh_lp1_i (fun x σ => ∃ j, j ≤ L ∧ x = nI j ∧ σ.1 = c.1 ∧ σ.2.2.2 = c.2.2.2 ∧ (∀ k, k ≠ (55 + 34 * b) + i → σ.2.2.1 k = c.2.2.1 k) ∧ (∀ l, l < j → hh_a σ ((55 + 34 * b) + i) l = if mm_fix m i = nI l then 1000000 else 0)) (fun x σ => L - x.toNatClampNeg) ?_ ⟨0, by omega, rfl, rfl, rfl, fun _ _ => rfl, fun i hi => absurd hi (Nat.not_lt_zero i)⟩
  rintro K x σ ⟨j, hj, rfl, hI, hB, hO, hV⟩ hK
  unfold wq_X2_startGiven_11
  rw [pp_rA (by omega), show hh_a σ 22 i = nI L from (congrFun (hO 22 (by omega)) i).trans hL]
  refine ⟨pp_in (by omega) (by omega), ?_⟩
  refine pp_c _ (pp_le (by omega) (by omega)) (fun e => ?_) (fun e => ?_)
  · have e : j = L := by omega
    subst e
    exact q σ hI hB hO hV
  · refine ⟨pp_in (by omega) (by omega), ?_⟩
    have st : ∀ (v : Int32) (σ5 : hh_S), v = (if mm_fix m i = nI j then 1000000 else 0) → σ5 = hh_sA σ (55 + 34 * b + (nI i).toNatClampNeg) (nI j) v → K (nI j + 1) σ5 := by
      intro v σ5 hv e5
      rw [pp_cl (by omega)] at e5
      rw [show (1 : Int32) = nI 1 from rfl, nI_add]
      refine hK _ _ ⟨j + 1, by omega, rfl, by rw [e5]; exact hI, by rw [e5]; exact hB, fun k h1 => by rw [e5, pp_sA_f h1]; exact hO k h1, fun l hl => ?_⟩ (by rw [pp_cl (by omega), pp_cl (by omega)]; omega)
      rw [e5, pp_sA_a (by omega)]
      by_cases e6 : l = j
      · rw [if_pos ⟨rfl, e6⟩, hv, e6]
      · rw [if_neg (fun z => e6 z.2)]
        exact hV l (by omega)
    by_cases e6 : nI j = mm_fix m i
    · exact pp_nt e6 ⟨pp_in (by omega) (by omega), fun σ5 e5 => st _ σ5 (by rw [if_pos e6.symm]) e5⟩
    · exact pp_nf e6 ⟨pp_in (by omega) (by omega), fun σ5 e5 => st _ σ5 (by rw [if_neg (fun z => e6 z.symm)]) e5⟩
/-- an ITEM has its LABEL from now on -/
theorem rr_given {sn ns ni nh i L l k kc : Nat} {c c' m : hh_S} (R : RR_n sn ns ni nh c m) (hi : i < ni) (hL : hh_a c 22 i = nI L) (L4 : L ≤ 4) (hl : l < L) (hk : (k = 8 ∧ kc = 23) ∨ (k = 9 ∧ kc = 24 ∧ hh_a m 8 i = -6)) (cI : c'.1 = c.1) (cO : ∀ j, j ≠ kc → j ≠ 55 + i → c'.2.2.1 j = c.2.2.1 j) (cK : ∀ j, hh_a c' kc j = if j = i then nI l else hh_a c kc j) (cV : ∀ l', l' < L → hh_a c' (55 + i) l' = if nI l = nI l' then 1000000 else 0) : RR_s c' (hh_sA m k (nI i) (nI l)) := by
  obtain ⟨R1, RC, R7, R8, R9⟩ := R
  obtain ⟨h24, e1, e2, e3⟩ := RC.2.1
  have h10 := RC.2.2.1.1
  have hfix : mm_fix (hh_sA m k (nI i) (nI l)) i = nI l := by
    unfold mm_fix
    rcases hk with ⟨rfl, rfl⟩ | ⟨rfl, rfl, h8⟩
    · have e : hh_a (hh_sA m 8 (nI i) (nI l)) 8 i = nI l := by rw [pp_sA_a (by omega), if_pos ⟨rfl, rfl⟩]
      rw [e, if_neg (pp_p0 (by omega))]
    · rw [pp_sA_n (by omega), h8, if_pos (by decide), pp_sA_a (by omega), if_pos ⟨rfl, rfl⟩]
  have kb : k = 8 ∨ k = 9 := by rcases hk with h | h <;> omega
  have kcb : kc = 23 ∨ kc = 24 := by rcases hk with h | h <;> omega
  have mO : ∀ j, j ≠ k → (hh_sA m k (nI i) (nI l)).2.2.1 j = m.2.2.1 j := fun j hj => pp_sA_f hj
  refine ⟨sn, ns, ni, nh, rr_1_e (c := c) (m := m) (by rw [cI]) rfl (cO _ (by omega) (by omega)) (mO _ (by omega)) R1, ⟨?_, ⟨h24, by rw [cI]; exact e1, e2, ?_⟩, ?_, rr_5_e (c := c) (m := m) h10 (cO _ (by omega) (by omega)) (fun h hh => cO _ (by omega) (by omega)) (mO _ (by omega)) RC.2.2.2.1, ?_⟩, rr_7_e (c := c) (m := m) (cO _ (by omega) (by omega)) (cO _ (by omega) (by omega)) (mO _ (by omega)) (mO _ (by omega)) R7, rr_8_e (c := c) (m := m) (by rw [cI]) rfl rfl rfl (mO _ (by omega)) (fun h hh => cO _ (by omega) (by omega)) h10 R8, ?_⟩
  · have r := RC.1
    unfold rr_2 hh_a at r ⊢
    rw [cI, cO 11 (by omega) (by omega), cO 12 (by omega) (by omega), cO 13 (by omega) (by omega), cO 14 (by omega) (by omega), mO 2 (by omega), mO 3 (by omega), mO 4 (by omega), mO 5 (by omega)]
    exact r
  · intro i' hi'
    obtain ⟨st, L', q1, q2, q3, q4, q5, q6, q7, q8, q9, q10, q11, q12, q13⟩ := e3 i' hi'
    refine ⟨st, L', q1, q2, q3, (congrFun (mO 6 (by omega)) i').trans q4, (congrFun (cO 20 (by omega) (by omega)) i').trans q5, (congrFun (mO 3 (by omega)) st).trans q6, (congrFun (cO 22 (by omega) (by omega)) i').trans q7, ?_, ?_, ?_, ?_, ?_, ?_⟩
    · exact ((congrFun (cO 21 (by omega) (by omega)) i').trans q8).trans (congrFun (mO 7 (by omega)) i').symm
    · rcases hk with ⟨rfl, rfl⟩ | ⟨rfl, rfl, h8⟩
      · rw [cK, pp_sA_a (by omega)]
        by_cases e : i' = i
        · rw [if_pos e, if_pos ⟨rfl, e⟩]
        · rw [if_neg e, if_neg (fun z => e z.2)]
          exact q9
      · exact ((congrFun (cO 23 (by omega) (by omega)) i').trans q9).trans (congrFun (mO 8 (by omega)) i').symm
    · rcases hk with ⟨rfl, rfl⟩ | ⟨rfl, rfl, h8⟩
      · exact ((congrFun (cO 24 (by omega) (by omega)) i').trans q10).trans (congrFun (mO 9 (by omega)) i').symm
      · rw [cK, pp_sA_a (by omega)]
        by_cases e : i' = i
        · rw [if_pos e, if_pos ⟨rfl, e⟩]
        · rw [if_neg e, if_neg (fun z => e z.2)]
          exact q10
    · exact ((congrFun (cO 25 (by omega) (by omega)) i').trans q11).trans (congrFun (mO 10 (by omega)) i').symm
    · rw [pp_sA_a (by omega)]
      by_cases e : 8 = k ∧ i' = i
      · rw [if_pos e]
        obtain ⟨-, rfl⟩ := e
        have : L = L' := (pp_eq (by omega) (by omega)).mp (hL.symm.trans q7)
        exact Or.inr ⟨l, by omega, rfl⟩
      · rw [if_neg e]
        exact q12
    · rw [pp_sA_a (by omega)]
      by_cases e : 9 = k ∧ i' = i
      · rw [if_pos e]
        obtain ⟨-, rfl⟩ := e
        have : L = L' := (pp_eq (by omega) (by omega)).mp (hL.symm.trans q7)
        exact Or.inr ⟨l, by omega, rfl⟩
      · rw [if_neg e]
        exact q13
  · have r := RC.2.2.1
    unfold rr_4 hh_a at r ⊢
    rw [cI, cO 26 (by omega) (by omega), cO 27 (by omega) (by omega), mO 11 (by omega), mO 12 (by omega)]
    exact r
  · have r := RC.2.2.2.2
    unfold rr_6 hh_a at r ⊢
    rw [cO 29 (by omega) (by omega), mO 14 (by omega)]
    exact r
  · intro i' hi' l' L' h4 hL' hl'
    have hc22 : hh_a c 22 i' = nI L' := (congrFun (cO 22 (by omega) (by omega)) i').symm.trans hL'
    by_cases e : i' = i
    · subst e
      have : L = L' := (pp_eq (by omega) (by omega)).mp (hL.symm.trans hc22)
      rw [cV l' (by omega)]
      unfold mm_sh
      rw [hfix, if_neg (pp_p0 (by omega))]
    · rw [show hh_a c' (55 + i') l' = hh_a c (55 + i') l' from congrFun (cO _ (by omega) (by omega)) l', R9 i' hi' l' L' h4 hc22 hl']
      exact (mm_sh_p (m := m) (m' := hh_sA m k (nI i) (nI l)) rfl rfl (mO 3 (by omega)) (congrFun (mO 6 (by omega)) i') (show hh_a (hh_sA m k (nI i) (nI l)) 8 i' = hh_a m 8 i' by rw [pp_sA_a (by omega), if_neg (fun z => e z.2)]) (show hh_a (hh_sA m k (nI i) (nI l)) 9 i' = hh_a m 9 i' by rw [pp_sA_a (by omega), if_neg (fun z => e z.2)]) (mO 17 (by omega))).symm
theorem ps_settle (x y : Int32) : RR_i (wp_X8_settle x y) (wp_X9_settle x y) := by
  rintro c m ⟨sn, ns, ni, nh, RN⟩
  have R : RR_s c m := ⟨sn, ns, ni, nh, RN⟩
  obtain ⟨R1, RC, R7, R8, R9⟩ := id RN
  have h8 := RC.1.1
  obtain ⟨h24, e1, e2, e3⟩ := RC.2.1
  unfold wp_X8_settle
  cases e : pp_ix x ni
  · refine s1_hasLabelF e1 h24 e (pp_nt rfl ?_)
    unfold wp_X9_settle
    exact s9_isLabelF e2 h24 e (pp_nt rfl ⟨rfl, R⟩)
  · obtain ⟨i, hi, rfl⟩ := pp_ix_t e (by omega)
    obtain ⟨L, L2, L4, -, -, eC, st, hst, e6, e3', -⟩ := rr_lb RC hi
    have I : vp_in (nI i) 24 := pp_in (by omega) (by omega)
    refine s1_hasLabel e1 h24 hi eC L4 ?_
    cases el : pp_ix y L
    · refine pp_nt rfl ?_
      unfold wp_X9_settle
      refine s9_isLabel e2 h24 hi e6 (by omega) e3' L4 ?_
      rw [el]
      exact pp_nt rfl ⟨rfl, R⟩
    · obtain ⟨l, hl, rfl⟩ := pp_ix_t el (by omega)
      obtain ⟨st', L', -, -, q3', -, -, -, -, -, g9, g10, -, g12, -⟩ := e3 i hi
      refine pp_nf (by decide) ⟨I, ?_⟩
      rw [pp_rA (by omega), pp_rA (by omega), g9]
      have M : ∀ Q : Int32 → hh_S → Prop, ((hh_a m 8 i < 0 → Q (hh_a m 9 i) (hh_sA m 9 (nI i) (nI l))) ∧ (¬ hh_a m 8 i < 0 → Q (-3) m)) → wp_X9_settle (nI i) (nI l) m Q := by
        intro Q q
        unfold wp_X9_settle
        refine s9_isLabel e2 h24 hi e6 (by omega) e3' L4 ?_
        rw [el]
        refine pp_nf (by decide) ⟨I, ?_⟩
        rw [pp_rA (by omega), pp_rA (by omega)]
        refine ⟨fun z => ⟨I, ?_⟩, q.2⟩
        rintro v rfl
        refine ⟨I, ?_⟩
        rintro m1 rfl
        exact q.1 z
      rcases g12 with g | ⟨k, hk, g⟩
      · refine pp_t g ⟨I, ?_⟩
        rintro v rfl
        refine ⟨I, ?_⟩
        intro c1 ec1
        have Rm : rr_C ns ni nh c1 (hh_sA m 9 (nI i) (nI l)) := by
          subst ec1
          refine ⟨RC.1, ⟨h24, e1, e2, fun j hj => ?_⟩, RC.2.2.1, rr_5_e (c := c) (m := m) RC.2.2.1.1 rfl (fun h hh => pp_sA_f (by omega)) rfl RC.2.2.2.1, RC.2.2.2.2⟩
          obtain ⟨st', L', q1, q2, q3, q4, q5, q6, q7, q8, q9, q10, q11, q12, q13⟩ := e3 j hj
          refine ⟨st', L', q1, q2, q3, q4, q5, q6, q7, q8, q9, ?_, q11, q12, ?_⟩
          · rw [pp_sA_a (by omega), pp_sA_a (by omega)]
            by_cases e4 : j = i
            · rw [if_pos ⟨rfl, e4⟩, if_pos ⟨rfl, e4⟩]
            · rw [if_neg (fun z => e4 z.2), if_neg (fun z => e4 z.2)]
              exact q10
          · rw [pp_sA_a (by omega)]
            by_cases e4 : j = i
            · rw [if_pos ⟨rfl, e4⟩]
              subst e4
              have : L = L' := (pp_eq (by omega) (by omega)).mp (eC.symm.trans q7)
              exact Or.inr ⟨l, by omega, rfl⟩
            · rw [if_neg (fun z => e4 z.2)]
              exact q13
        have hf : mm_fix (hh_sA m 9 (nI i) (nI l)) i = nI l := by
          unfold mm_fix
          rw [pp_sA_n (by omega), g, if_pos (by decide), pp_sA_a (by omega), if_pos ⟨rfl, rfl⟩]
        have cL : hh_a c1 22 i = nI L := by rw [ec1, pp_sA_n (by omega)]; exact eC
        refine s2_startGiven Rm hi cL L2 L4 ?_
        intro c' cI cB cO cV
        refine M _ ⟨fun _ => ⟨g10, ?_⟩, fun z => absurd (by rw [g]; decide) z⟩
        refine rr_given (kc := 24) RN hi eC L4 hl (Or.inr ⟨rfl, rfl, g⟩) (by rw [cI, ec1]; rfl) (fun j h1 h2 => ?_) (fun j => ?_) (fun l' hl' => ?_)
        · rw [cO j (by omega), ec1, pp_sA_f h1]
        · rw [show hh_a c' 24 j = hh_a c1 24 j from congrFun (cO 24 (by omega)) j, ec1, pp_sA_a (by omega)]
          by_cases e4 : j = i
          · rw [if_pos ⟨rfl, e4⟩, if_pos e4]
          · rw [if_neg (fun z => e4 z.2), if_neg e4]
        · have := cV l' hl'
          rw [hf] at this
          exact this
      · refine pp_f (by rw [g]; exact pp_n6 (by omega)) (M _ ⟨fun z => absurd z (by rw [g]; exact pp_p0 (by omega)), fun _ => ⟨rfl, R⟩⟩)
/-- whether there is an answer to an ITEM -/
def mm_any (m : hh_S) (nh i : Nat) : Bool := !pp_all (fun h => decide (hh_a m 13 (24 * h + i) ≤ 0)) nh
theorem s0_anySaid {ns ni nh i : Nat} {c m : hh_S} {Q : Int32 → hh_S → Prop} (R : rr_C ns ni nh c m) (hi : i < ni) (q : Q (pp_i (mm_any m nh i)) c) : wp_X0_anySaid (nI i) c Q := by
  have h10 := R.2.2.1.1
  have h24 := R.2.1.1
  have hn := R.2.2.1.2.1
  unfold wp_X0_anySaid
  refine hh_lp1_i (fun b σ => ∃ j, j ≤ nh ∧ b = nI j ∧ pp_all (fun h => decide (hh_a m 13 (24 * h + i) ≤ 0)) j = true ∧ c = σ) (fun b σ => nh - b.toNatClampNeg) ?_ ⟨0, by omega, rfl, rfl, rfl⟩
  rintro K b σ ⟨j, hj, rfl, e2, rfl⟩ hK
  unfold wq_X0_anySaid_2
  show (c.1 320 ≤ nI j → _) ∧ (¬ c.1 320 ≤ nI j → _)
  rw [hn]
  refine pp_c _ (pp_le (by omega) (by omega)) (fun e => ?_) (fun e => ?_)
  · have e : j = nh := by omega
    subst e
    unfold mm_any at q
    rw [e2] at q
    exact q
  · refine ⟨pp_in (by omega) (by omega), pp_in (by omega) (by omega), ?_⟩
    rw [show (1 : Int32) = nI 1 from rfl, nI_add, pp_cl (by omega), pp_rA (by omega)]
    rcases (R.2.2.2.1 j (by omega)).1 i hi with ⟨b1, b2⟩ | ⟨k, L, -, hk, hL, b1, b2⟩
    · refine pp_t b2 (hK _ _ ⟨j + 1, by omega, rfl, ?_, rfl⟩ (by rw [pp_cl (by omega), pp_cl (by omega)]; omega))
      rw [pp_all, e2, b1]
      rfl
    · rw [b2]
      refine pp_f (pp_n6 (by omega)) ?_
      unfold mm_any at q
      rw [pp_all_f (k := j) (decide_eq_false (by rw [b1]; exact nI_nle (by omega) (by omega))) (by omega)] at q
      exact q
theorem s9_known {ns ni nh i l L st : Nat} {c m : hh_S} {Q : Int32 → hh_S → Prop} (R : rr_C ns ni nh c m) (hi : i < ni) (e6 : hh_a m 6 i = nI st) (hst : st < 8) (e3 : hh_a m 3 st = nI L) (L4 : L ≤ 4) (hl : l < L) (q : (mm_any m nh i = true → Q (-3) m) ∧ (mm_any m nh i = false → ((mm_fix m i < 0 → Q 1 (hh_sA m 8 (nI i) (nI l))) ∧ (¬ mm_fix m i < 0 → Q (-3) m)))) : wp_X9_known (nI i) (nI l) m Q := by
  obtain ⟨h24, e1, e2, -⟩ := R.2.1
  have h10 := R.2.2.1.1
  have hn := R.2.2.1.2.2.1
  have I : vp_in (nI i) 24 := pp_in (by omega) (by omega)
  unfold wp_X9_known
  refine s9_isLabel e2 h24 hi e6 hst e3 L4 ?_
  rw [pp_ix_nI hl (by omega)]
  refine pp_nf (by decide) ?_
  refine hh_lp2_i (fun a b σ => ∃ j, j ≤ nh ∧ b = nI j ∧ a = pp_i (mm_any m j i) ∧ m = σ) (fun a b σ => nh - b.toNatClampNeg) ?_ ⟨0, by omega, rfl, rfl, rfl⟩
  rintro K a b σ ⟨j, hj, rfl, rfl, rfl⟩ hK
  unfold wq_X9_known_16
  show (m.1 13 ≤ nI j → _) ∧ (¬ m.1 13 ≤ nI j → _)
  rw [hn]
  refine pp_c _ (pp_le (by omega) (by omega)) (fun e => ?_) (fun e => ?_)
  · have e : j = nh := by omega
    subst e
    refine pp_bn q.1 (fun w => s9_fixed (by omega) ?_)
    refine ⟨fun z => ⟨I, ?_⟩, (q.2 w).2⟩
    rintro m1 rfl
    exact (q.2 w).1 z
  · have mu : nh - (nI (j + 1)).toNatClampNeg < nh - (nI j).toNatClampNeg := by rw [pp_cl (by omega), pp_cl (by omega)]; omega
    rw [show nI j + 1 = nI (j + 1) from nI_1 j, show (24 : Int32) = nI 24 from rfl, pp_idx, pp_rA (by omega)]
    have go : ∀ t : Bool, mm_any m (j + 1) i = t → K (pp_i t) (nI (j + 1)) m := fun t ht => hK _ _ _ ⟨j + 1, by omega, rfl, by rw [ht], rfl⟩ mu
    refine pp_bn (fun w => go true ?_) (fun w => ⟨pp_in (by omega) (by omega), fun u => go false ?_, fun u => go true ?_⟩)
    · unfold mm_any at w ⊢
      rw [pp_all]
      rw [Bool.not_eq_true'] at w
      rw [w]
      rfl
    · unfold mm_any at w ⊢
      rw [pp_all]
      rw [Bool.not_eq_false'] at w
      rw [w, decide_eq_true u]
      rfl
    · unfold mm_any at w ⊢
      rw [pp_all, decide_eq_false u, Bool.and_false]
      rfl
theorem ps_known (x y : Int32) : RR_i (wp_X8_known x y) (wp_X9_known x y) := by
  rintro c m ⟨sn, ns, ni, nh, RN⟩
  have R : RR_s c m := ⟨sn, ns, ni, nh, RN⟩
  obtain ⟨R1, RC, R7, R8, R9⟩ := id RN
  have h8 := RC.1.1
  obtain ⟨h24, e1, e2, e3⟩ := RC.2.1
  unfold wp_X8_known
  cases e : pp_ix x ni
  · refine s1_hasLabelF e1 h24 e (pp_nt rfl ?_)
    unfold wp_X9_known
    exact s9_isLabelF e2 h24 e (pp_nt rfl ⟨rfl, R⟩)
  · obtain ⟨i, hi, rfl⟩ := pp_ix_t e (by omega)
    obtain ⟨L, L2, L4, -, -, eC, st, hst, e6, e3', -⟩ := rr_lb RC hi
    have I : vp_in (nI i) 24 := pp_in (by omega) (by omega)
    refine s1_hasLabel e1 h24 hi eC L4 ?_
    cases el : pp_ix y L
    · refine pp_nt rfl ?_
      unfold wp_X9_known
      refine s9_isLabel e2 h24 hi e6 (by omega) e3' L4 ?_
      rw [el]
      exact pp_nt rfl ⟨rfl, R⟩
    · obtain ⟨l, hl, rfl⟩ := pp_ix_t el (by omega)
      refine pp_nf (by decide) (s0_anySaid RC hi ?_)
      refine pp_bn (fun w => s9_known RC hi e6 (by omega) e3' L4 hl ⟨fun _ => ⟨rfl, R⟩, fun u => absurd (w.symm.trans u) (by decide)⟩) (fun w => s1_isFree RC hi ?_)
      by_cases hf : mm_fix m i < 0
      · rw [decide_eq_true hf]
        refine pp_nf (by decide) ⟨I, ?_⟩
        intro c1 ec1
        have Rm : rr_C ns ni nh c1 (hh_sA m 8 (nI i) (nI l)) := by
          subst ec1
          refine ⟨RC.1, ⟨h24, e1, e2, fun j hj => ?_⟩, RC.2.2.1, rr_5_e (c := c) (m := m) RC.2.2.1.1 rfl (fun h hh => pp_sA_f (by omega)) rfl RC.2.2.2.1, RC.2.2.2.2⟩
          obtain ⟨st', L', q1, q2, q3, q4, q5, q6, q7, q8, q9, q10, q11, q12, q13⟩ := e3 j hj
          refine ⟨st', L', q1, q2, q3, q4, q5, q6, q7, q8, ?_, q10, q11, ?_, q13⟩
          · rw [pp_sA_a (by omega), pp_sA_a (by omega)]
            by_cases e4 : j = i
            · rw [if_pos ⟨rfl, e4⟩, if_pos ⟨rfl, e4⟩]
            · rw [if_neg (fun z => e4 z.2), if_neg (fun z => e4 z.2)]
              exact q9
          · rw [pp_sA_a (by omega)]
            by_cases e4 : j = i
            · rw [if_pos ⟨rfl, e4⟩]
              subst e4
              have : L = L' := (pp_eq (by omega) (by omega)).mp (eC.symm.trans q7)
              exact Or.inr ⟨l, by omega, rfl⟩
            · rw [if_neg (fun z => e4 z.2)]
              exact q12
        have hf2 : mm_fix (hh_sA m 8 (nI i) (nI l)) i = nI l := by
          unfold mm_fix
          have e : hh_a (hh_sA m 8 (nI i) (nI l)) 8 i = nI l := by rw [pp_sA_a (by omega), if_pos ⟨rfl, rfl⟩]
          rw [e, if_neg (pp_p0 (by omega))]
        have cL : hh_a c1 22 i = nI L := by rw [ec1, pp_sA_n (by omega)]; exact eC
        refine s2_startGiven Rm hi cL L2 L4 ?_
        intro c' cI cB cO cV
        refine s9_known RC hi e6 (by omega) e3' L4 hl ⟨fun u => absurd (w.symm.trans u) (by decide), fun _ => ⟨fun _ => ⟨rfl, ?_⟩, fun z => absurd hf z⟩⟩
        refine rr_given (kc := 23) RN hi eC L4 hl (Or.inl ⟨rfl, rfl⟩) (by rw [cI, ec1]; rfl) (fun j h1 h2 => ?_) (fun j => ?_) (fun l' hl' => ?_)
        · rw [cO j (by omega), ec1, pp_sA_f h1]
        · rw [show hh_a c' 23 j = hh_a c1 23 j from congrFun (cO 23 (by omega)) j, ec1, pp_sA_a (by omega)]
          by_cases e4 : j = i
          · rw [if_pos ⟨rfl, e4⟩, if_pos e4]
          · rw [if_neg (fun z => e4 z.2), if_neg e4]
        · have := cV l' hl'
          rw [hf2] at this
          exact this
      · rw [decide_eq_false hf]
        exact pp_nt rfl (s9_known RC hi e6 (by omega) e3' L4 hl ⟨fun _ => ⟨rfl, R⟩, fun _ => ⟨fun z => absurd z hf, fun _ => ⟨rfl, R⟩⟩⟩)
