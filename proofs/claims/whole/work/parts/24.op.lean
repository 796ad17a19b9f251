/-! ===== SHARES, ENDS, OPEN ===== -/
def mm_L (m : hh_S) (i : Nat) : Nat := (mm_lb m i).toNatClampNeg
def mm_end (m : hh_S) (i : Nat) : Nat := pp_bst (mm_sh m i) (mm_L m i)
def mm_sure (m : hh_S) (i : Nat) : Int32 := mm_sh m i (mm_end m i) / 1000
def mm_st (m : hh_S) (i : Nat) : Nat := (hh_a m 6 i).toNatClampNeg
def mm_bit (m : hh_S) (i s : Nat) : Prop := ((hh_a m 4 (mm_st m i)) >>> (nI s &&& 31)) &&& 1 = 1
noncomputable def mm_tst (m : hh_S) (ni i s : Nat) : Bool := if ((hh_a m 4 (mm_st m i)) >>> (nI s &&& 31)) &&& 1 = (1 : Int32) then (if pp_fi (mm_at m s (hh_a m 7 i)) ni < 0 then false else decide (¬ mm_sure m (fa_first (mm_at m s (hh_a m 7 i)) ni) < hh_a m 5 (mm_st m i))) else true
noncomputable def mm_open (m : hh_S) (ns ni i : Nat) : Bool := pp_all (mm_tst m ni i) ns
theorem pp_nle {a b : Int32} : ¬ a ≤ b ↔ b < a := ⟨fa_of_nle, fun h => (fa_of_lt h).2.1⟩
theorem pp_nlt {a b : Int32} : ¬ a < b ↔ b ≤ a := ⟨fa_of_nlt, fun h q => (fa_of_lt q).2.1 h⟩
theorem pp_all_up {p : Nat → Bool} {j : Nat} (h : pp_all p j = false) : ∀ {n : Nat}, j ≤ n → pp_all p n = false
  | 0, hn => by
    have e : j = 0 := by omega
    subst e
    exact h
  | n + 1, hn => by
    by_cases e : j = n + 1
    · subst e
      exact h
    · unfold pp_all
      rw [pp_all_up h (show j ≤ n by omega), Bool.false_and]
theorem rr_lb {ns ni nh i : Nat} {c m : hh_S} (R : rr_C ns ni nh c m) (hi : i < ni) : ∃ L, 2 ≤ L ∧ L ≤ 4 ∧ mm_L m i = L ∧ mm_lb m i = nI L ∧ hh_a c 22 i = nI L ∧ ∃ st, st < ns ∧ hh_a m 6 i = nI st ∧ hh_a m 3 st = nI L ∧ mm_st m i = st := by
  have h8 := R.1.1
  obtain ⟨st, L, a1, a2, a3, a4, a5, a6, a7, -⟩ := R.2.1.2.2.2 i hi
  have e : mm_lb m i = nI L := by
    unfold mm_lb
    rw [a4, pp_cl (by omega), a6]
  refine ⟨L, a2, a3, ?_, e, a7, st, a1, a4, a6, ?_⟩
  · unfold mm_L
    rw [e, pp_cl (by omega)]
  · unfold mm_st
    rw [a4, pp_cl (by omega)]
theorem s9_shareOf {ns ni nh i l : Nat} {c m : hh_S} {Q : Int32 → hh_S → Prop} (R : rr_C ns ni nh c m) (hi : i < ni) (hl : l < 4) (q : Q (mm_sh m i l) m) : wp_X9_shareOf (nI i) (nI l) m Q := by
  have h24 := R.2.1.1
  have h8 := R.1.1
  obtain ⟨L, L2, L4, -, eL, -, st, hst, e6, e3, -⟩ := rr_lb R hi
  unfold wp_X9_shareOf
  refine s9_fixed (by omega) ?_
  unfold mm_sh at q
  by_cases e : mm_fix m i < 0
  · rw [if_pos e] at q
    refine pp_t e ?_
    show (m.1 20 = 0 → _) ∧ (¬ m.1 20 = 0 → _)
    by_cases e1 : m.1 20 = 0
    · rw [if_pos e1] at q
      refine pp_t e1 (s9_labelsOf (by omega) e6 (by omega) ⟨?_, ?_⟩)
      · rw [e3]; exact nI_ne0 (by omega) (by omega)
      · rw [e3]; rw [eL] at q; exact q
    · rw [if_neg e1] at q
      refine pp_f e1 ?_
      show (m.1 21 ≤ nI i → _) ∧ (¬ m.1 21 ≤ nI i → _)
      by_cases e2 : m.1 21 ≤ nI i
      · rw [if_pos e2] at q
        refine pp_t e2 (s9_labelsOf (by omega) e6 (by omega) ⟨?_, ?_⟩)
        · rw [e3]; exact nI_ne0 (by omega) (by omega)
        · rw [e3]; rw [eL] at q; exact q
      · rw [if_neg e2] at q
        refine pp_f e2 ?_
        rw [show (4 : Int32) = nI 4 from rfl, pp_idx, pp_rA (by omega)]
        exact ⟨pp_in (by omega) (by omega), q⟩
  · rw [if_neg e] at q
    refine pp_f e ?_
    by_cases e1 : mm_fix m i = nI l
    · rw [if_pos e1] at q
      exact pp_nt e1 q
    · rw [if_neg e1] at q
      exact pp_nf e1 q
theorem s9_endOf {ns ni nh i : Nat} {c m : hh_S} {Q : Int32 → hh_S → Prop} (R : rr_C ns ni nh c m) (hi : i < ni) (q : Q (nI (mm_end m i)) m) : wp_X9_endOf (nI i) m Q := by
  have h24 := R.2.1.1
  have h8 := R.1.1
  obtain ⟨L, L2, L4, eN, eL, -, st, hst, e6, e3, -⟩ := rr_lb R hi
  unfold mm_end at q
  rw [eN] at q
  unfold wp_X9_endOf
  refine hh_lp2_i (fun a b σ => ∃ j, 1 ≤ j ∧ j ≤ L ∧ b = nI j ∧ a = nI (pp_bst (mm_sh m i) j) ∧ m = σ) (fun a b σ => L - b.toNatClampNeg) ?_ ⟨1, by omega, by omega, rfl, by rw [pp_bst_1]; rfl, rfl⟩
  rintro K a b σ ⟨j, hj1, hj, rfl, rfl, rfl⟩ hK
  unfold wq_X9_endOf_4
  refine s9_labelsOf (by omega) e6 (by omega) ?_
  rw [e3]
  refine pp_c _ (pp_le (by omega) (by omega)) (fun e => ?_) (fun e => ?_)
  · have e : j = L := by omega
    subst e
    exact q
  · have hb := pp_bst_lt (mm_sh m i) hj1
    refine s9_shareOf R hi (by omega) (s9_shareOf R hi (by omega) ?_)
    have s1 : nI j + 1 = nI (j + 1) := nI_1 j
    rw [s1]
    have mu : L - (nI (j + 1)).toNatClampNeg < L - (nI j).toNatClampNeg := by rw [pp_cl (by omega), pp_cl (by omega)]; omega
    refine ⟨fun e2 => ?_, fun e2 => ?_⟩
    · exact hK _ _ _ ⟨j + 1, by omega, by omega, rfl, by rw [pp_bst, if_neg (fun z => (fa_of_lt z).2.1 e2)], rfl⟩ mu
    · exact hK _ _ _ ⟨j + 1, by omega, by omega, rfl, by rw [pp_bst, if_pos (fa_of_nle e2)], rfl⟩ mu
theorem s9_sureOf {ns ni nh i : Nat} {c m : hh_S} {Q : Int32 → hh_S → Prop} (R : rr_C ns ni nh c m) (hi : i < ni) (q : Q (mm_sure m i) m) : wp_X9_sureOf (nI i) m Q := by
  obtain ⟨L, L2, L4, eN, -⟩ := rr_lb R hi
  have hb : mm_end m i < 4 := by
    unfold mm_end
    rw [eN]
    have := pp_bst_lt (mm_sh m i) (n := L) (by omega)
    omega
  unfold wp_X9_sureOf
  exact s9_endOf R hi (s9_shareOf R hi hb q)
theorem s2_greatest {b : Nat} {i L : Nat} {f : Nat → Int32} {c : hh_S} {Q : Int32 → hh_S → Prop} (hi : i < 24) (hL : hh_a c 22 i = nI L) (L2 : 2 ≤ L) (L4 : L ≤ 4) (hf : ∀ l, l < L → hh_a c ((55 + 34 * b) + i) l = f l) (q : Q (nI (pp_bst f L)) c) : wp_X2_greatest b (nI i) c Q := by
  unfold wp_X2_greatest
  refine hh_lp2_i (fun a b σ => ∃ j, 1 ≤ j ∧ j ≤ L ∧ b = nI j ∧ a = nI (pp_bst f j) ∧ c = σ) (fun a b σ => L - b.toNatClampNeg) ?_ ⟨1, by omega, by omega, rfl, by rw [pp_bst_1]; rfl, rfl⟩
  rintro K a b' σ ⟨j, hj1, hj, rfl, rfl, rfl⟩ hK
  unfold wq_X2_greatest_4
  rw [pp_rA (by omega), hL]
  refine ⟨pp_in hi (by omega), pp_c _ (pp_le (by omega) (by omega)) (fun e => ?_) (fun e => ?_)⟩
  · have e : j = L := by omega
    subst e
    exact q
  · have hb := pp_bst_lt f hj1
    have s1 : nI j + 1 = nI (j + 1) := nI_1 j
    rw [s1, pp_cl (by omega), pp_rA (by omega), pp_rA (by omega), hf j (by omega), hf (pp_bst f j) (by omega)]
    have mu : L - (nI (j + 1)).toNatClampNeg < L - (nI j).toNatClampNeg := by rw [pp_cl (by omega), pp_cl (by omega)]; omega
    refine ⟨pp_in hi (by omega), pp_in (by omega) (by omega), pp_in hi (by omega), pp_in (by omega) (by omega), fun e2 => ?_, fun e2 => ?_⟩
    · exact hK _ _ _ ⟨j + 1, by omega, by omega, rfl, by rw [pp_bst, if_neg (fun z => (fa_of_lt z).2.1 e2)], rfl⟩ mu
    · exact hK _ _ _ ⟨j + 1, by omega, by omega, rfl, by rw [pp_bst, if_pos (fa_of_nle e2)], rfl⟩ mu
theorem s8_greatest {ns ni nh i : Nat} {c m : hh_S} {Q : Int32 → hh_S → Prop} (R : rr_C ns ni nh c m) (R9 : rr_9 ni c m) (hi : i < ni) (q : Q (nI (mm_end m i)) c) : wp_X2_greatest 0 (nI i) c Q := by
  have h24 := R.2.1.1
  obtain ⟨L, L2, L4, eN, -, eC, -⟩ := rr_lb R hi
  refine s2_greatest (f := mm_sh m i) (by omega) eC L2 L4 (fun l hl => R9 i hi l L L4 eC hl) ?_
  unfold mm_end at q
  rw [eN] at q
  exact q
theorem s8_sureOf {ns ni nh i : Nat} {c m : hh_S} {Q : Int32 → hh_S → Prop} (R : rr_C ns ni nh c m) (R9 : rr_9 ni c m) (hi : i < ni) (q : Q (mm_sure m i) c) : wp_X8_sureOf (nI i) c Q := by
  have h24 := R.2.1.1
  obtain ⟨L, L2, L4, eN, -, eC, -⟩ := rr_lb R hi
  have hb : mm_end m i < L := by
    unfold mm_end
    rw [eN]
    exact pp_bst_lt (mm_sh m i) (n := L) (by omega)
  unfold wp_X8_sureOf
  refine ⟨pp_in (by omega) (by omega), s8_greatest R R9 hi ⟨pp_in (by omega) (by omega), ?_⟩⟩
  rw [pp_cl (by omega), pp_rA (by omega), R9 i hi _ L L4 eC hb]
  exact q
theorem pp_fi_neg {p : Nat → Bool} {n : Nat} (hn : n < 2147483648) : pp_fi p n < 0 ↔ ¬ fa_first p n < n := by
  unfold pp_fi
  by_cases e : fa_first p n < n
  · rw [if_pos e]
    exact ⟨fun z => absurd z (pp_p0 (by omega)), fun z => absurd e z⟩
  · rw [if_neg e]
    exact ⟨fun _ => e, fun _ => by decide⟩
theorem pp_fi_6 {p : Nat → Bool} {n : Nat} (hn : n < 2147483648) : pp_fi p n = -6 ↔ ¬ fa_first p n < n := by
  unfold pp_fi
  by_cases e : fa_first p n < n
  · rw [if_pos e]
    exact ⟨fun z => absurd z (pp_n6 (by omega)), fun z => absurd e z⟩
  · rw [if_neg e]
    exact ⟨fun _ => e, fun _ => rfl⟩
theorem s9_isOpen {ns ni nh i : Nat} {c m : hh_S} {Q : Int32 → hh_S → Prop} (R : rr_C ns ni nh c m) (hi : i < ni) (q : Q (pp_i (mm_open m ns ni i)) m) : wp_X9_isOpen (nI i) m Q := by
  have h24 := R.2.1.1
  have h8 := R.1.1
  have hn := R.1.2.2.1
  obtain ⟨L, L2, L4, eN, -, eC, st, hst, e6, -, est⟩ := rr_lb R hi
  unfold wp_X9_isOpen
  refine hh_lp2_i (fun a b σ => ∃ j, j ≤ ns ∧ b = nI j ∧ a = pp_i (pp_all (mm_tst m ni i) j) ∧ m = σ) (fun a b σ => ns - b.toNatClampNeg) ?_ ⟨0, by omega, rfl, rfl, rfl⟩
  rintro K a b σ ⟨j, hj, rfl, rfl, rfl⟩ hK
  unfold wq_X9_isOpen_4
  show (m.1 2 ≤ nI j → _) ∧ (¬ m.1 2 ≤ nI j → _)
  rw [hn]
  refine pp_c _ (pp_le (by omega) (by omega)) (fun e => ?_) (fun e => ?_)
  · have e : j = ns := by omega
    subst e
    exact ⟨pp_nar _, q⟩
  · have s1 : nI j + 1 = nI (j + 1) := nI_1 j
    rw [s1, pp_rA (by omega), e6, pp_rA (by omega)]
    have mu : ns - (nI (j + 1)).toNatClampNeg < ns - (nI j).toNatClampNeg := by rw [pp_cl (by omega), pp_cl (by omega)]; omega
    refine pp_bz (fun e2 => ⟨pp_nar _, ?_⟩) (fun e2 => ⟨pp_in (by omega) (by omega), pp_in (by omega) (by omega), ?_⟩)
    · have z : mm_open m ns ni i = false := pp_all_up e2 (by omega)
      rw [z] at q
      rw [e2]
      exact q
    · have go : ∀ t : Bool, mm_tst m ni i j = t → K (pp_i t) (nI (j + 1)) m := fun t ht => hK _ _ _ ⟨j + 1, by omega, rfl, by rw [pp_all, e2, ht, Bool.true_and], rfl⟩ mu
      by_cases e3 : ((hh_a m 4 st) >>> (nI j &&& 31)) &&& 1 = (1 : Int32)
      · refine pp_nt e3 ⟨pp_in (by omega) (by omega), ?_⟩
        rw [pp_rA (by omega)]
        refine s9_itemOf R ?_
        have T : mm_tst m ni i j = (if pp_fi (mm_at m j (hh_a m 7 i)) ni < 0 then false else decide (¬ mm_sure m (fa_first (mm_at m j (hh_a m 7 i)) ni) < hh_a m 5 (mm_st m i))) := by
          unfold mm_tst
          rw [est, if_pos e3]
        by_cases e4 : pp_fi (mm_at m j (hh_a m 7 i)) ni < 0
        · exact pp_t e4 (go false (by rw [T, if_pos e4]))
        · refine pp_f e4 ?_
          have e5 : fa_first (mm_at m j (hh_a m 7 i)) ni < ni := Classical.not_not.mp (fun z => e4 ((pp_fi_neg (by omega)).mpr z))
          rw [show pp_fi (mm_at m j (hh_a m 7 i)) ni = nI (fa_first (mm_at m j (hh_a m 7 i)) ni) from if_pos e5]
          refine s9_sureOf R e5 ?_
          rw [pp_rA (by omega), e6, pp_rA (by omega)]
          refine ⟨pp_in (by omega) (by omega), pp_in (by omega) (by omega), ?_⟩
          rw [if_neg e4, est] at T
          by_cases e7 : mm_sure m (fa_first (mm_at m j (hh_a m 7 i)) ni) < hh_a m 5 st
          · exact pp_t e7 (go false (by rw [T]; exact decide_eq_false (fun z => z e7)))
          · exact pp_f e7 (go true (by rw [T]; exact decide_eq_true e7))
      · refine pp_nf e3 ?_
        rw [e2]
        exact go true (by unfold mm_tst; rw [est, if_neg e3])
theorem s8_isOpen {ns ni nh i : Nat} {c m : hh_S} {Q : Int32 → hh_S → Prop} (R : rr_C ns ni nh c m) (R9 : rr_9 ni c m) (hi : i < ni) (q : Q (pp_i (mm_open m ns ni i)) c) : wp_X8_isOpen (nI i) c Q := by
  have h24 := R.2.1.1
  have h8 := R.1.1
  have hn := R.1.2.1
  obtain ⟨L, L2, L4, eN, -, eC, st, hst, e6, -, est⟩ := rr_lb R hi
  obtain ⟨st2, L', -, -, -, g1, g2, -, -, g3, -⟩ := R.2.1.2.2.2 i hi
  have es : hh_a c 20 i = nI st := (g2.trans g1.symm).trans e6
  obtain ⟨-, -, f3, f4, -⟩ := R.1.2.2.2 st hst
  unfold wp_X8_isOpen
  refine ⟨pp_in (by omega) (by omega), ?_⟩
  intro v hv
  rw [pp_rA (by omega), es] at hv
  subst hv
  refine hh_lp1_i (fun b σ => ∃ j, j ≤ ns ∧ b = nI j ∧ pp_all (mm_tst m ni i) j = true ∧ c = σ) (fun b σ => ns - b.toNatClampNeg) ?_ ⟨0, by omega, rfl, rfl, rfl⟩
  rintro K b σ ⟨j, hj, rfl, e2, rfl⟩ hK
  unfold wq_X8_isOpen_12
  show (c.1 128 ≤ nI j → _) ∧ (¬ c.1 128 ≤ nI j → _)
  rw [hn]
  refine pp_c _ (pp_le (by omega) (by omega)) (fun e => ?_) (fun e => ?_)
  · have e : j = ns := by omega
    subst e
    unfold mm_open at q
    rw [e2] at q
    exact q
  · have s1 : nI j + 1 = nI (j + 1) := nI_1 j
    rw [s1, pp_rA (by omega), f3]
    have mu : ns - (nI (j + 1)).toNatClampNeg < ns - (nI j).toNatClampNeg := by rw [pp_cl (by omega), pp_cl (by omega)]; omega
    have go : mm_tst m ni i j = true → K (nI (j + 1)) c := fun ht => hK _ _ ⟨j + 1, by omega, rfl, by rw [pp_all, e2, ht, Bool.true_and], rfl⟩ mu
    have no : mm_tst m ni i j = false → Q 0 c := fun ht => by
      unfold mm_open at q
      rw [pp_all_f ht (show j < ns by omega)] at q
      exact q
    refine ⟨pp_in (by omega) (by omega), ?_⟩
    by_cases e3 : ((hh_a m 4 st) >>> (nI j &&& 31)) &&& 1 = (1 : Int32)
    · refine pp_nt e3 ⟨pp_in (by omega) (by omega), ?_⟩
      rw [pp_rA (by omega), g3]
      refine s1_find R ?_
      have T : mm_tst m ni i j = (if pp_fi (mm_at m j (hh_a m 7 i)) ni < 0 then false else decide (¬ mm_sure m (fa_first (mm_at m j (hh_a m 7 i)) ni) < hh_a m 5 (mm_st m i))) := by
        unfold mm_tst
        rw [est, if_pos e3]
      by_cases e4 : pp_fi (mm_at m j (hh_a m 7 i)) ni < 0
      · exact pp_t ((pp_fi_6 (by omega)).mpr ((pp_fi_neg (by omega)).mp e4)) (no (by rw [T, if_pos e4]))
      · have e5 : fa_first (mm_at m j (hh_a m 7 i)) ni < ni := Classical.not_not.mp (fun z => e4 ((pp_fi_neg (by omega)).mpr z))
        refine pp_f (fun z => (pp_fi_6 (by omega)).mp z e5) ?_
        rw [show pp_fi (mm_at m j (hh_a m 7 i)) ni = nI (fa_first (mm_at m j (hh_a m 7 i)) ni) from if_pos e5]
        refine s8_sureOf R R9 e5 ?_
        rw [pp_rA (by omega), f4]
        refine ⟨pp_in (by omega) (by omega), ?_⟩
        rw [if_neg e4, est] at T
        by_cases e7 : mm_sure m (fa_first (mm_at m j (hh_a m 7 i)) ni) < hh_a m 5 st
        · exact pp_f ((fa_of_lt e7).2.1) (no (by rw [T]; exact decide_eq_false (fun z => z e7)))
        · exact pp_t (fa_of_nlt e7) (go (by rw [T]; exact decide_eq_true e7))
    · exact pp_nf e3 (go (by unfold mm_tst; rw [est, if_neg e3]))
