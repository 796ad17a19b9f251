/-! ===== a JOINING, in the model ===== -/
def jm_S (d : hh_S) (ni : Nat) (S : Nat → Nat → Nat) (m : hh_S) : Prop := ∀ i, i < ni → ∀ l, l < mm_L d i → hh_a m 17 (4 * i + l) = nI (S i l)
def jm_T (nh : Nat) (T : Nat → Nat → Nat → Nat → Nat) (m : hh_S) : Prop := ∀ h, h < nh → ∀ L t s, 2 ≤ L → L ≤ 4 → t < L → s < L → hh_a m 18 (48 * h + 16 * (L - 2) + 4 * t + s) = nI (T h L t s)
def jm_F (m m' : hh_S) : Prop := m'.1 = m.1 ∧ ∀ k, k ≠ 17 → k ≠ 18 → k ≠ 25 → m'.2.2.1 k = m.2.2.1 k
theorem jm_F_r (m : hh_S) : jm_F m m := ⟨rfl, fun _ _ _ _ => rfl⟩
theorem jm_F_t {a b c : hh_S} (h : jm_F a b) (g : jm_F b c) : jm_F a c := ⟨g.1.trans h.1, fun k h1 h2 h3 => (g.2 k h1 h2 h3).trans (h.2 k h1 h2 h3)⟩
theorem jm_F_d {m m' d : hh_S} (F : jm_F m m') (E : jg_d m = d) : jg_d m' = d := (jg_d_of (by rw [F.1]; exact ⟨rfl, rfl, rfl⟩) (fun k h1 h2 => F.2 k (by omega) (by omega) (by omega))).trans E
theorem jm_cnt {m d : hh_S} (E : jg_d m = d) (h i : Nat) : mm_cnt m h i = mm_cnt d h i := by rw [← E]; rfl
theorem jm_fix {m d : hh_S} (E : jg_d m = d) (i : Nat) : mm_fix m i = mm_fix d i := by rw [← E]; rfl
theorem jm_L {m d : hh_S} (E : jg_d m = d) (i : Nat) : mm_L m i = mm_L d i := by rw [← E]; rfl
theorem jm_a {m d : hh_S} (E : jg_d m = d) {k : Nat} (h : 2 ≤ k ∧ k ≤ 14) (i : Nat) : hh_a m k i = hh_a d k i := congrFun (jg_d_a E h) i
theorem s9_countsD {h i : Nat} {m d : hh_S} {Q : Int32 → hh_S → Prop} (E : jg_d m = d) (hh : h < 10) (hi : i < 24) (q : Q (pp_i (mm_cnt d h i)) m) : wp_X9_counts (nI h) (nI i) m Q := s9_counts hh hi (by rw [jm_cnt E]; exact q)
theorem s9_fixedD {i : Nat} {m d : hh_S} {Q : Int32 → hh_S → Prop} (E : jg_d m = d) (hi : i < 24) (q : Q (mm_fix d i) m) : wp_X9_fixed (nI i) m Q := s9_fixed hi (by rw [jm_fix E]; exact q)
theorem s9_countN {ns ni nh i : Nat} {c m d : hh_S} {Q : Int32 → hh_S → Prop} (R : rr_C ns ni nh c d) (E : jg_d m = d) (hi : i < 24) (q : Q (nI (jg_n d nh i)) m) : wp_X9_countOf (nI i) m Q := by
  refine s9_countOf (nh := nh) ((jg_d_s E).2.2.trans R.2.2.1.2.2.1) R.2.2.1.1 hi ?_
  rw [show (fun h => mm_cnt m h i) = (fun h => mm_cnt d h i) from funext (fun h => jm_cnt E h i)]
  exact q
theorem s9_labelsD {ns ni nh i : Nat} {c m d : hh_S} {Q : Int32 → hh_S → Prop} (R : rr_C ns ni nh c d) (E : jg_d m = d) (hi : i < ni) (q : Q (nI (mm_L d i)) m) : wp_X9_labelsOf (nI i) m Q := by
  have h24 := R.2.1.1
  have h8 := R.1.1
  obtain ⟨L, L2, L4, hL, lb, l22, st, hst, e6, e3, -⟩ := rr_lb R hi
  refine s9_labelsOf (st := st) (by omega) ((jm_a E (by omega) i).trans e6) (by omega) ?_
  rw [jm_a E (by omega), e3, ← hL]
  exact q
theorem s9_beginShares {ns ni nh : Nat} {c m d : hh_S} {Q : hh_S → Prop} (R : rr_C ns ni nh c d) (E : jg_d m = d) (q : ∀ m' : hh_S, jm_F m m' → jm_S d ni (jg_0 d nh) m' → Q m') : wp_X9_beginShares m Q := by
  have h24 := R.2.1.1
  have h10 := R.2.2.1.1
  unfold wp_X9_beginShares
  refine hh_lp1_i (fun x σ => ∃ j, j ≤ ni ∧ x = nI j ∧ jm_F m σ ∧ (∀ i, i < j → ∀ l, l < mm_L d i → hh_a σ 17 (4 * i + l) = nI (jg_0 d nh i l))) (fun x σ => ni - x.toNatClampNeg) ?_ ⟨0, by omega, rfl, jm_F_r m, fun i hi => absurd hi (Nat.not_lt_zero i)⟩
  rintro K x σ ⟨j, hj, rfl, F, hV⟩ hK
  have E1 := jm_F_d F E
  unfold wq_X9_beginShares_2
  show (σ.1 7 ≤ nI j → _) ∧ (¬ σ.1 7 ≤ nI j → _)
  rw [(jg_d_s E1).2.1, R.2.1.2.2.1]
  refine pp_c _ (pp_le (by omega) (by omega)) (fun e => ?_) (fun e => s9_countN R E1 (by omega) ?_)
  · have e : j = ni := by omega
    subst e
    exact q σ F hV
  · obtain ⟨L, L2, L4, hL, -⟩ := rr_lb R (show j < ni by omega)
    have hn : jg_n d nh j ≤ 10 := by have := fb_ct_le (fun h => mm_cnt d h j) nh; unfold jg_n; omega
    refine hh_lp1_i (fun x σ => ∃ l, l ≤ L ∧ x = nI l ∧ jm_F m σ ∧ (∀ i, i ≤ j → ∀ l', l' < mm_L d i → (i < j ∨ l' < l) → hh_a σ 17 (4 * i + l') = nI (jg_0 d nh i l'))) (fun x σ => L - x.toNatClampNeg) ?_ ⟨0, by omega, rfl, F, fun i hi l' hl' z => hV i (by omega) l' hl'⟩
    clear F hV E1 σ
    rintro K2 x σ ⟨l, hl, rfl, F, hV⟩ hK2
    have E1 := jm_F_d F E
    unfold wq_X9_beginShares_18
    refine s9_labelsD R E1 (by omega) ?_
    rw [hL]
    refine pp_c _ (pp_le (by omega) (by omega)) (fun e2 => ?_) (fun e2 => ?_)
    · have e2 : l = L := by omega
      subst e2
      rw [show nI j + 1 = nI (j + 1) from nI_1 j]
      exact hK _ _ ⟨j + 1, by omega, rfl, F, fun i hi l' hl' => hV i (by omega) l' hl' (by
        by_cases z : i = j
        · subst z; exact Or.inr (by omega)
        · exact Or.inl (by omega))⟩ (by rw [pp_cl (by omega), pp_cl (by omega)]; omega)
    · refine hh_lp2_i (fun x y τ => ∃ h, h ≤ nh ∧ y = nI h ∧ x = nI (fb_ct (mm_cw d j l) h) ∧ σ = τ) (fun x y τ => nh - y.toNatClampNeg) ?_ ⟨0, by omega, rfl, rfl, rfl⟩
      rintro K3 x y τ ⟨h, hh, rfl, rfl, rfl⟩ hK3
      unfold wq_X9_beginShares_33
      show (σ.1 13 ≤ nI h → _) ∧ (¬ σ.1 13 ≤ nI h → _)
      rw [(jg_d_s E1).2.2, R.2.2.1.2.2.1]
      refine pp_c _ (pp_le (by omega) (by omega)) (fun e3 => s9_fixedD E1 (by omega) ?_) (fun e3 => s9_countsD E1 (by omega) (by omega) ?_)
      · have e3 : h = nh := by omega
        rw [e3]
        have st : ∀ σ2 : hh_S, σ2 = hh_sA σ 17 (nI (4 * j + l)) (nI (jg_0 d nh j l)) → K2 (nI l + 1) σ2 := by
          intro σ2 e5
          rw [show nI l + 1 = nI (l + 1) from nI_1 l]
          refine hK2 _ _ ⟨l + 1, by omega, rfl, ⟨by rw [e5]; exact F.1, fun k k1 k2 k3 => by rw [e5, pp_sA_f k1]; exact F.2 k k1 k2 k3⟩, fun i hi l' hl' z => ?_⟩ (by rw [pp_cl (by omega), pp_cl (by omega)]; omega)
          have l4 : l' < 4 := by
            by_cases y : i = j
            · rw [y, hL] at hl'; omega
            · obtain ⟨L', -, L4', hL', -⟩ := rr_lb R (show i < ni by omega)
              omega
          rw [e5, pp_sA_a (by omega)]
          by_cases z2 : i = j ∧ l' = l
          · rw [if_pos ⟨rfl, by omega⟩, z2.1, z2.2]
          · rw [if_neg (fun y => z2 (by omega))]
            exact hV i hi l' hl' (by omega)
        rw [show (4 : Int32) = nI 4 from rfl, pp_idx]
        have I : vp_in (nI (4 * j + l)) 96 := pp_in (by omega) (by omega)
        by_cases w : mm_fix d j < 0
        · refine pp_t w ?_
          have hc := mm_cw_le d nh j l
          rw [show (0 : Int32) = nI 0 from rfl]
          refine pp_c _ (pp_le (by omega) (by omega)) (fun w2 => s9_labelsD R E1 (by omega) ?_) (fun w2 => ⟨nI_ne0 (by omega) (by omega), I, ?_⟩)
          · rw [hL]
            refine ⟨nI_ne0 (by omega) (by omega), I, ?_⟩
            rw [show (1000000 : Int32) = nI 1000000 from rfl, pk_div (by omega) (by omega) (by omega)]
            intro σ2 e5
            refine st σ2 ?_
            rw [e5, jg_0, if_pos w, if_pos (by omega), hL]
          · rw [show (1000000 : Int32) = nI 1000000 from rfl, pk_mul, pk_div (by omega) (by omega) (by omega)]
            intro σ2 e5
            refine st σ2 ?_
            rw [e5, jg_0, if_pos w, if_neg (by omega)]
        · refine pp_f w ?_
          by_cases w2 : mm_fix d j = nI l
          · refine pp_nt w2 ⟨I, fun σ2 e5 => st σ2 ?_⟩
            rw [e5, jg_0, if_neg w, if_pos w2]
            rfl
          · refine pp_nf w2 ⟨I, fun σ2 e5 => st σ2 ?_⟩
            rw [e5, jg_0, if_neg w, if_neg w2]
            rfl
      · have mu : nh - (nI (h + 1)).toNatClampNeg < nh - (nI h).toNatClampNeg := by rw [pp_cl (by omega), pp_cl (by omega)]; omega
        have sc : fb_ct (mm_cw d j l) (h + 1) = fb_ct (mm_cw d j l) h + (if mm_cw d j l h = true then 1 else 0) := fb_ct_succ _ _
        rw [show nI h + 1 = nI (h + 1) from nI_1 h, show nI l + 1 = nI (l + 1) from nI_1 l, show (24 : Int32) = nI 24 from rfl, pp_idx, pp_rA (by omega), jm_a E1 (by omega)]
        refine pp_bz (fun w => ?_) (fun w => ⟨pp_in (by omega) (by omega), ?_⟩)
        · rintro v rfl
          exact hK3 _ _ _ ⟨h + 1, by omega, rfl, by rw [sc, if_neg (by unfold mm_cw; rw [w, Bool.false_and]; decide)]; exact nI_add _ 0, rfl⟩ mu
        · have T : mm_cw d j l h = decide (hh_a d 13 (24 * h + j) = nI (l + 1)) := by unfold mm_cw; rw [w, Bool.true_and]
          by_cases w2 : hh_a d 13 (24 * h + j) = nI (l + 1)
          · refine pp_nt w2 ?_
            rintro v rfl
            exact hK3 _ _ _ ⟨h + 1, by omega, rfl, by rw [sc, if_pos (by rw [T]; exact decide_eq_true w2)]; exact nI_add _ 1, rfl⟩ mu
          · refine pp_nf w2 ?_
            rintro v rfl
            exact hK3 _ _ _ ⟨h + 1, by omega, rfl, by rw [sc, if_neg (by rw [T, decide_eq_false w2]; decide)]; exact nI_add _ 0, rfl⟩ mu
theorem s9_saidBy {ns ni nh h L t s : Nat} {S : Nat → Nat → Nat} {c m d : hh_S} {Q : Int64 → hh_S → Prop} (R : rr_C ns ni nh c d) (E : jg_d m = d) (hh : h < nh) (L4 : L ≤ 4) (ht : t < L) (hs : s < L) (B : jg_B d ni S) (HS : jm_S d ni S m) (q : Q (lN (jg_u d S h L t s ni)) m) : wp_X9_saidBy (nI h) (nI L) (nI t) (nI s) m Q := by
  have h24 := R.2.1.1
  have h10 := R.2.2.1.1
  obtain ⟨⟨v, v1, v2, v3, v4, v5⟩, -⟩ := jg_rules R
  unfold wp_X9_saidBy
  rw [jc_0, jm_a E (by omega), v4, nI_I (by omega), show (10000 : Int64) = lN 10000 from rfl, lN_mul]
  rintro w rfl
  refine hh_lp2_i (fun x y σ => ∃ j, j ≤ ni ∧ y = nI j ∧ x = lN (jg_u d S h L t s j) ∧ m = σ) (fun x y σ => ni - y.toNatClampNeg) ?_ ⟨0, by omega, rfl, by unfold jg_u; rw [v5]; rfl, rfl⟩
  rintro K x y σ ⟨j, hj, rfl, rfl, rfl⟩ hK
  unfold wq_X9_saidBy_16
  show (m.1 7 ≤ nI j → _) ∧ (¬ m.1 7 ≤ nI j → _)
  rw [(jg_d_s E).2.1, R.2.1.2.2.1]
  refine pp_c _ (pp_le (by omega) (by omega)) (fun e => ?_) (fun e => s9_labelsD R E (by omega) ?_)
  · have e : j = ni := by omega
    subst e
    exact q
  · obtain ⟨L', L2', L4', hL', -⟩ := rr_lb R (show j < ni by omega)
    have mu : ni - (nI (j + 1)).toNatClampNeg < ni - (nI j).toNatClampNeg := by rw [pp_cl (by omega), pp_cl (by omega)]; omega
    have su : jg_u d S h L t s (j + 1) = jg_u d S h L t s j + jg_q d S h L t s j := by unfold jg_u; rw [fb_sm_succ, Nat.add_assoc]
    rw [hL', show nI j + 1 = nI (j + 1) from nI_1 j]
    have no : ∀ P : Prop, ¬ (mm_L d j = L ∧ mm_cw d j s h = true) → ((0 : Int32) = 0 → (∀ v6 : Int64, v6 = (lN (jg_u d S h L t s j) + (0 : Int64)) → (K v6 (nI (j + 1)) m))) ∧ (¬ (0 : Int32) = 0 → P) := by
      intro P w
      refine pp_t rfl ?_
      rintro v rfl
      refine hK _ _ _ ⟨j + 1, by omega, rfl, ?_, rfl⟩ mu
      rw [su, show jg_q d S h L t s j = 0 from if_neg w]
      exact lN_add _ 0
    refine pp_nc _ (pp_eq (by omega) (by omega)) (fun w => no _ (fun z => w (by omega))) (fun w => s9_countsD E (by omega) (by omega) ?_)
    refine pp_bz (fun w2 => no _ (fun z => by have z := z.2; unfold mm_cw at z; rw [w2, Bool.false_and] at z; exact absurd z (by decide))) (fun w2 => ?_)
    rw [show (24 : Int32) = nI 24 from rfl, pp_idx, pp_rA (by omega), jm_a E (by omega), show nI s + 1 = nI (s + 1) from nI_1 s]
    refine ⟨pp_in (by omega) (by omega), ?_⟩
    have T : mm_cw d j s h = decide (hh_a d 13 (24 * h + j) = nI (s + 1)) := by unfold mm_cw; rw [w2, Bool.true_and]
    by_cases w3 : hh_a d 13 (24 * h + j) = nI (s + 1)
    · refine pp_nt w3 (pp_f (by decide) ?_)
      rw [show (4 : Int32) = nI 4 from rfl, pp_idx, pp_rA (by omega)]
      have sb := B j (by omega) t (by omega)
      refine ⟨pp_in (by omega) (by omega), ?_⟩
      rw [HS j (by omega) t (by omega), nI_I (by omega), lN_add]
      rintro v rfl
      refine hK _ _ _ ⟨j + 1, by omega, rfl, ?_, rfl⟩ mu
      rw [su, show jg_q d S h L t s j = S j t from if_pos ⟨by omega, by rw [T]; exact decide_eq_true w3⟩]
    · exact pp_nf w3 (no _ (fun z => by rw [T, decide_eq_false w3] at z; exact absurd z.2 (by decide)))
def jm_P (T : Nat → Nat → Nat → Nat → Nat) (h L t s : Nat) (m : hh_S) : Prop := ∀ h' L' t' s', 2 ≤ L' → L' ≤ 4 → t' < L' → s' < L' → (h' < h ∨ (h' = h ∧ (L' < L ∨ (L' = L ∧ (t' < t ∨ (t' = t ∧ s' < s)))))) → hh_a m 18 (48 * h' + 16 * (L' - 2) + 4 * t' + s') = nI (T h' L' t' s')
theorem s9_at {h L t s : Nat} {m : hh_S} {Q : Int32 → hh_S → Prop} (L2 : 2 ≤ L) (q : Q (nI (48 * h + 16 * (L - 2) + 4 * t + s)) m) : wp_X9_at (nI h) (nI L) (nI t) (nI s) m Q := by
  unfold wp_X9_at
  rw [show (2 : Int32) = nI 2 from rfl, show (16 : Int32) = nI 16 from rfl, show (4 : Int32) = nI 4 from rfl, show (48 : Int32) = nI 48 from rfl, pp_at L2]
  exact q
theorem s9_layTables {ns ni nh : Nat} {S : Nat → Nat → Nat} {c m d : hh_S} {Q : hh_S → Prop} (R : rr_C ns ni nh c d) (E : jg_d m = d) (B : jg_B d ni S) (HS : jm_S d ni S m) (q : ∀ m' : hh_S, jm_F m m' → m'.2.2.1 17 = m.2.2.1 17 → jm_T nh (jg_t d S ni) m' → Q m') : wp_X9_layTables m Q := by
  have h24 := R.2.1.1
  have h10 := R.2.2.1.1
  have s17 : ∀ σ : hh_S, σ.2.2.1 17 = m.2.2.1 17 → jm_S d ni S σ := fun σ e i hi l hl => (congrFun e _).trans (HS i hi l hl)
  unfold wp_X9_layTables
  refine hh_lp1_i (fun x σ => ∃ h, h ≤ nh ∧ x = nI h ∧ jm_F m σ ∧ σ.2.2.1 17 = m.2.2.1 17 ∧ jm_P (jg_t d S ni) h 2 0 0 σ) (fun x σ => nh - x.toNatClampNeg) ?_ ⟨0, by omega, rfl, jm_F_r m, rfl, fun h' L' t' s' q1 q2 q3 q4 q5 => absurd q5 (by omega)⟩
  rintro K x σ ⟨h, hh, rfl, F, F17, hV⟩ hK
  have E1 := jm_F_d F E
  unfold wq_X9_layTables_2
  show (σ.1 13 ≤ nI h → _) ∧ (¬ σ.1 13 ≤ nI h → _)
  rw [(jg_d_s E1).2.2, R.2.2.1.2.2.1]
  refine pp_c _ (pp_le (by omega) (by omega)) (fun e => ?_) (fun e => ?_)
  · have e : h = nh := by omega
    subst e
    exact q σ F F17 (fun h' hh' L t s q1 q2 q3 q4 => hV h' L t s q1 q2 q3 q4 (by omega))
  · refine hh_lp1_i (fun x σ => ∃ L, 2 ≤ L ∧ L ≤ 5 ∧ x = nI L ∧ jm_F m σ ∧ σ.2.2.1 17 = m.2.2.1 17 ∧ jm_P (jg_t d S ni) h L 0 0 σ) (fun x σ => 5 - x.toNatClampNeg) ?_ ⟨2, by omega, by omega, rfl, F, F17, hV⟩
    clear F F17 hV E1 σ
    rintro K2 x σ ⟨L, L2, L5, rfl, F, F17, hV⟩ hK2
    unfold wq_X9_layTables_12
    rw [show (4 : Int32) = nI 4 from rfl]
    refine pp_c _ (pp_lt (by omega) (by omega)) (fun e2 => ?_) (fun e2 => ?_)
    · rw [show nI h + 1 = nI (h + 1) from nI_1 h]
      exact hK _ _ ⟨h + 1, by omega, rfl, F, F17, fun h' L' t' s' q1 q2 q3 q4 q5 => hV h' L' t' s' q1 q2 q3 q4 (by omega)⟩ (by rw [pp_cl (by omega), pp_cl (by omega)]; omega)
    · refine hh_lp1_i (fun x σ => ∃ t, t ≤ L ∧ x = nI t ∧ jm_F m σ ∧ σ.2.2.1 17 = m.2.2.1 17 ∧ jm_P (jg_t d S ni) h L t 0 σ) (fun x σ => L - x.toNatClampNeg) ?_ ⟨0, by omega, rfl, F, F17, hV⟩
      clear F F17 hV σ
      rintro K3 x σ ⟨t, ht, rfl, F, F17, hV⟩ hK3
      have E1 := jm_F_d F E
      unfold wq_X9_layTables_19
      refine pp_c _ (pp_le (by omega) (by omega)) (fun e3 => ?_) (fun e3 => ?_)
      · rw [show nI L + 1 = nI (L + 1) from nI_1 L]
        exact hK2 _ _ ⟨L + 1, by omega, by omega, rfl, F, F17, fun h' L' t' s' q1 q2 q3 q4 q5 => hV h' L' t' s' q1 q2 q3 q4 (by omega)⟩ (by rw [pp_cl (by omega), pp_cl (by omega)]; omega)
      · refine hh_lp2_i (fun x y τ => ∃ s, s ≤ L ∧ y = nI s ∧ x = lN (fb_sm (fun s => jg_u d S h L t s ni) s) ∧ σ = τ) (fun x y τ => L - y.toNatClampNeg) ?_ ⟨0, by omega, rfl, rfl, rfl⟩
        rintro K4 x y τ ⟨s, hs, rfl, rfl, rfl⟩ hK4
        unfold wq_X9_layTables_30
        refine pp_c _ (pp_le (by omega) (by omega)) (fun e4 => ?_) (fun e4 => s9_saidBy R E1 (by omega) (by omega) (by omega) (by omega) B (s17 σ F17) ?_)
        · have e4' : s = L := by omega
          rw [e4']
          clear hK4 K4 e4 e4' hs s
          obtain ⟨-, l1⟩ := jg_l_in (h := h) (s := 0) R B (show t < L by omega) (by omega)
          have l2 := jg_l_b (h := h) R B (show t < L by omega) (show L ≤ 4 by omega)
          refine hh_lp1_i (fun x σ => ∃ s, s ≤ L ∧ x = nI s ∧ jm_F m σ ∧ σ.2.2.1 17 = m.2.2.1 17 ∧ jm_P (jg_t d S ni) h L t s σ) (fun x σ => L - x.toNatClampNeg) ?_ ⟨0, by omega, rfl, F, F17, hV⟩
          clear F F17 hV E1 σ
          rintro K4 x σ ⟨s, hs, rfl, F, F17, hV⟩ hK4
          have E1 := jm_F_d F E
          unfold wq_X9_layTables_59
          refine pp_c _ (pp_le (by omega) (by omega)) (fun e4 => ?_) (fun e4 => s9_at L2 (s9_saidBy R E1 (by omega) (by omega) (by omega) (by omega) B (s17 σ F17) ⟨fun z => by have := (pk_lEQ (b := 0) (by omega) (by omega)).mp z; omega, pp_in (by omega) (by omega), ?_⟩))
          · rw [show nI t + 1 = nI (t + 1) from nI_1 t]
            exact hK3 _ _ ⟨t + 1, by omega, rfl, F, F17, fun h' L' t' s' q1 q2 q3 q4 q5 => hV h' L' t' s' q1 q2 q3 q4 (by omega)⟩ (by rw [pp_cl (by omega), pp_cl (by omega)]; omega)
          · have u1 := (jg_u_b (h := h) (s := s) R B (Nat.le_refl ni) (show t < L by omega)).2
            rw [show (1000 : Int64) = lN 1000 from rfl, lN_mul, pk_lDiv (by omega) (by omega) (by omega), lN_i]
            intro σ2 e5
            rw [show nI s + 1 = nI (s + 1) from nI_1 s]
            refine hK4 _ _ ⟨s + 1, by omega, rfl, ⟨by rw [e5]; exact F.1, fun k k1 k2 k3 => by rw [e5, pp_sA_f k2]; exact F.2 k k1 k2 k3⟩, by rw [e5, pp_sA_f (by omega)]; exact F17, fun h' L' t' s' q1 q2 q3 q4 q5 => ?_⟩ (by rw [pp_cl (by omega), pp_cl (by omega)]; omega)
            rw [e5, pp_sA_a (by omega)]
            by_cases z : h' = h ∧ L' = L ∧ t' = t ∧ s' = s
            · obtain ⟨rfl, rfl, rfl, rfl⟩ := z
              rw [if_pos ⟨rfl, rfl⟩]
              rfl
            · rw [if_neg (fun y => z (by omega))]
              exact hV h' L' t' s' q1 q2 q3 q4 (by omega)
        · rw [lN_add, show nI s + 1 = nI (s + 1) from nI_1 s]
          rintro v rfl
          exact hK4 _ _ _ ⟨s + 1, by omega, rfl, rfl, rfl⟩ (by rw [pp_cl (by omega), pp_cl (by omega)]; omega)
