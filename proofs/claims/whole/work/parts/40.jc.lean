/-! ===== a JOINING, in the class ===== -/
def jc_E (c c' : hh_S) : Prop := c'.1 = c.1 ∧ ∀ k, k < 55 → c'.2.2.1 k = c.2.2.1 k
theorem jc_E_r (c : hh_S) : jc_E c c := ⟨rfl, fun _ _ => rfl⟩
theorem jc_E_C {ns ni nh : Nat} {c c' d : hh_S} (h : jc_E c c') (R : rr_C ns ni nh c d) : rr_C ns ni nh c' d := rr_C_c (by rw [h.1]; exact ⟨rfl, rfl, rfl⟩) (fun k hk => h.2 k (by unfold rr_kc at hk; omega)) R
def jc_S (b : Nat) (d : hh_S) (ni : Nat) (S : Nat → Nat → Nat) (c : hh_S) : Prop := ∀ i, i < ni → ∀ l, l < mm_L d i → hh_a c (55 + 34 * b + i) l = nI (S i l)
def jc_T (b nh : Nat) (T : Nat → Nat → Nat → Nat → Nat) (c : hh_S) : Prop := ∀ h, h < nh → ∀ L t s, 2 ≤ L → L ≤ 4 → t < L → s < L → hh_a c (79 + 34 * b + h) (16 * (L - 2) + 4 * t + s) = nI (T h L t s)
def jc_U (b : Nat) (U : Nat → Nat → Nat → Nat) (c : hh_S) : Prop := ∀ L t s, 2 ≤ L → L ≤ 4 → t < L → s < L → hh_b c (32 + 6 * b) (16 * (L - 2) + 4 * t + s) = lN (U L t s)
theorem s0_countN {ns ni nh i : Nat} {c m : hh_S} {Q : Int32 → hh_S → Prop} (R : rr_C ns ni nh c m) (hi : i < ni) (q : Q (nI (jg_n m nh i)) c) : wp_X0_countTo (nI i) c Q := s0_countTo R hi q
theorem s2_startByAnswers {b ns ni nh i : Nat} {c d : hh_S} {Q : hh_S → Prop} (R : rr_C ns ni nh c d) (hi : i < ni) (hf : mm_fix d i < 0) (q : ∀ c' : hh_S, c'.1 = c.1 → (∀ k, k ≠ (55 + 34 * b) + i → c'.2.2.1 k = c.2.2.1 k) → (∀ l, l < mm_L d i → hh_a c' ((55 + 34 * b) + i) l = nI (jg_0 d nh i l)) → Q c') : wp_X2_startByAnswers b (nI i) c Q := by
  have h24 := R.2.1.1
  have h10 := R.2.2.1.1
  obtain ⟨L, L2, L4, hL, lb, l22, -⟩ := rr_lb R hi
  rw [hL] at q
  unfold wp_X2_startByAnswers
  refine s0_countN R hi ?_
  have hn : jg_n d nh i ≤ 10 := by have := fb_ct_le (fun h => mm_cnt d h i) nh; unfold jg_n; omega
  show (0 < nI (jg_n d nh i) → _) ∧ (¬ 0 < nI (jg_n d nh i) → _)
  rw [show (0 : Int32) = nI 0 from rfl]
  refine pp_c _ (pp_lt (by omega) (by omega)) (fun e => ?_) (fun e => ?_)
  · refine hh_lp1_i (fun x σ => ∃ j, j ≤ L ∧ x = nI j ∧ σ.1 = c.1 ∧ (∀ k, k ≠ (55 + 34 * b) + i → σ.2.2.1 k = c.2.2.1 k) ∧ (∀ l, l < j → hh_a σ ((55 + 34 * b) + i) l = nI (jg_0 d nh i l))) (fun x σ => L - x.toNatClampNeg) ?_ ⟨0, by omega, rfl, rfl, fun _ _ => rfl, fun i hi => absurd hi (Nat.not_lt_zero i)⟩
    rintro K x σ ⟨j, hj, rfl, hI, hO, hV⟩ hK
    have RC : rr_C ns ni nh σ d := jc_E_C ⟨hI, fun k hk => hO k (by omega)⟩ R
    unfold wq_X2_startByAnswers_21
    rw [pp_rA (by omega), show hh_a σ 22 i = nI L from (congrFun (hO 22 (by omega)) i).trans l22]
    refine ⟨pp_in (by omega) (by omega), ?_⟩
    refine pp_c _ (pp_le (by omega) (by omega)) (fun e2 => ?_) (fun e2 => ⟨pp_in (by omega) (by omega), s0_countWith RC hi (L := 4) (by omega) (by omega) ⟨nI_ne0 e (by omega), pp_in (by omega) (by omega), ?_⟩⟩)
    · have e2 : j = L := by omega
      subst e2
      exact q σ hI hO hV
    · have hc := mm_cw_le d nh i j
      intro σ5 e5
      rw [pp_cl (by omega), show (1000000 : Int32) = nI 1000000 from rfl, pk_mul, pk_div (by omega) (by omega) (by omega)] at e5
      rw [show nI j + 1 = nI (j + 1) from nI_1 j]
      refine hK _ _ ⟨j + 1, by omega, rfl, by rw [e5]; exact hI, fun k h1 => by rw [e5, pp_sA_f h1]; exact hO k h1, fun l hl => ?_⟩ (by rw [pp_cl (by omega), pp_cl (by omega)]; omega)
      rw [e5, pp_sA_a (by omega)]
      by_cases e6 : l = j
      · rw [if_pos ⟨rfl, e6⟩, e6]
        unfold jg_0
        rw [if_pos hf, if_neg (by omega)]
      · rw [if_neg (fun z => e6 z.2)]
        exact hV l (by omega)
  · refine s2_startAlike (by omega) l22 L2 L4 (fun c' a1 a2 a3 a4 => q c' a1 a3 (fun l hl => ?_))
    rw [a4 l hl, show (1000000 : Int32) = nI 1000000 from rfl, pk_div (by omega) (by omega) (by omega)]
    unfold jg_0
    rw [if_pos hf, if_pos (by omega), hL]
theorem s2_startShares {b ns ni nh i : Nat} {c d : hh_S} {Q : hh_S → Prop} (R : rr_C ns ni nh c d) (hi : i < ni) (q : ∀ c' : hh_S, c'.1 = c.1 → (∀ k, k ≠ (55 + 34 * b) + i → c'.2.2.1 k = c.2.2.1 k) → (∀ l, l < mm_L d i → hh_a c' ((55 + 34 * b) + i) l = nI (jg_0 d nh i l)) → Q c') : wp_X2_startShares b (nI i) c Q := by
  obtain ⟨L, L2, L4, hL, lb, l22, -⟩ := rr_lb R hi
  unfold wp_X2_startShares
  refine s1_isFree R hi (pp_bz (fun e => ?_) (fun e => s2_startByAnswers R hi (of_decide_eq_true e) q))
  refine s2_startGiven R hi l22 L2 L4 (fun c' a1 a2 a3 a4 => q c' a1 a3 (fun l hl => ?_))
  rw [a4 l (by omega)]
  unfold jg_0
  rw [if_neg (of_decide_eq_false e)]
  split <;> rfl
theorem jc_0 {σ : hh_S} {k : Nat} : hh_rA σ k 0 = hh_a σ k 0 := pp_rA (n := 0) (by omega)
theorem jc_1 {σ : hh_S} {k : Nat} : hh_rA σ k 1 = hh_a σ k 1 := pp_rA (n := 1) (by omega)
theorem jc_2 {σ : hh_S} {k : Nat} : hh_rA σ k 2 = hh_a σ k 2 := pp_rA (n := 2) (by omega)
theorem s2_spot {L t s : Nat} {c : hh_S} {Q : Int32 → hh_S → Prop} (L2 : 2 ≤ L) (q : Q (nI (16 * (L - 2) + 4 * t + s)) c) : wp_X2_spot (nI L) (nI t) (nI s) c Q := by
  unfold wp_X2_spot
  rw [show (2 : Int32) = nI 2 from rfl, show (16 : Int32) = nI 16 from rfl, show (4 : Int32) = nI 4 from rfl, pp_spot L2]
  exact q
theorem s2_sumSaid {b ns ni nh h : Nat} {S : Nat → Nat → Nat} {c d : hh_S} {Q : hh_S → Prop} (R : rr_C ns ni nh c d) (hh : h < nh) (B : jg_B d ni S) (HS : jc_S b d ni S c) (q : ∀ c' : hh_S, c'.1 = c.1 → c'.2.2.1 = c.2.2.1 → jc_U b (fun L t s => jg_u d S h L t s ni) c' → Q c') : wp_X2_sumSaid b (nI h) c Q := by
  have h24 := R.2.1.1
  have h10 := R.2.2.1.1
  obtain ⟨⟨v, v1, v2, v3, v4, v5⟩, -⟩ := jg_rules R
  unfold wp_X2_sumSaid
  refine hh_lp1_i (fun x σ => ∃ j, j ≤ 48 ∧ x = nI j ∧ σ.1 = c.1 ∧ σ.2.2.1 = c.2.2.1 ∧ (∀ p, p < j → hh_b σ (32 + 6 * b) p = lN (10000 * v))) (fun x σ => 48 - x.toNatClampNeg) ?_ ⟨0, by omega, rfl, rfl, rfl, fun i hi => absurd hi (Nat.not_lt_zero i)⟩
  rintro K x σ ⟨j, hj, rfl, hI, hA, hV⟩ hK
  unfold wq_X2_sumSaid_2
  rw [show (48 : Int32) = nI 48 from rfl]
  refine pp_c _ (pp_le (by omega) (by omega)) (fun e => ?_) (fun e => ⟨pp_in (by omega) (by omega), ?_⟩)
  · have e : j = 48 := by omega
    subst e
    have st : jc_U b (fun L t s => jg_u d S h L t s 0) σ := by
      intro L t s L2 L4 ht hs
      show hh_b σ _ _ = lN (jg_u d S h L t s 0)
      rw [hV _ (by omega)]
      unfold jg_u
      rw [v5]
      rfl
    clear hV hK K
    refine hh_lp1_i (fun x σ => ∃ j, j ≤ ni ∧ x = nI j ∧ σ.1 = c.1 ∧ σ.2.2.1 = c.2.2.1 ∧ jc_U b (fun L t s => jg_u d S h L t s j) σ) (fun x σ => ni - x.toNatClampNeg) ?_ ⟨0, by omega, rfl, hI, hA, st⟩
    clear st hI hA hj σ
    rintro K x σ ⟨j, hj, rfl, hI, hA, hU⟩ hK
    have RC : rr_C ns ni nh σ d := jc_E_C ⟨hI, fun k hk => by rw [hA]⟩ R
    unfold wq_X2_sumSaid_36
    show (σ.1 256 ≤ nI j → _) ∧ (¬ σ.1 256 ≤ nI j → _)
    rw [RC.2.1.2.1]
    refine pp_c _ (pp_le (by omega) (by omega)) (fun e => ?_) (fun e => s0_counts RC hh (by omega) ?_)
    · have e : j = ni := by omega
      subst e
      exact q σ hI hA hU
    · have mu : ni - (nI (j + 1)).toNatClampNeg < ni - (nI j).toNatClampNeg := by rw [pp_cl (by omega), pp_cl (by omega)]; omega
      rw [show nI j + 1 = nI (j + 1) from nI_1 j]
      refine pp_bz (fun w => ?_) (fun w => ?_)
      · refine hK _ _ ⟨j + 1, by omega, rfl, hI, hA, fun L t s L2 L4 ht hs => ?_⟩ mu
        rw [hU L t s L2 L4 ht hs]
        show lN (jg_u d S h L t s j) = lN (jg_u d S h L t s (j + 1))
        unfold jg_u
        rw [fb_sm_succ, show jg_q d S h L t s j = 0 from if_neg (fun z => by have z := z.2; unfold mm_cw at z; rw [w, Bool.false_and] at z; exact absurd z (by decide))]
        rfl
      · obtain ⟨L, L2, L4, hL, lb, l22, -⟩ := rr_lb RC (show j < ni by omega)
        obtain ⟨a1, a2, a3, a4⟩ := jg_an RC hh (show j < ni by omega) w
        rw [hL] at a1
        refine ⟨pp_in (by omega) (by omega), ?_⟩
        rw [pp_rA (by omega), pp_rA (by omega), pp_cl (by omega), l22, a3]
        rintro v rfl
        refine ⟨pp_in (by omega) (by omega), pp_in (by omega) (by omega), ?_⟩
        rintro v rfl
        have sU : ∀ L' t' s', 2 ≤ L' → L' ≤ 4 → t' < L' → s' < L' → jg_u d S h L' t' s' (j + 1) = if L' = L ∧ s' = jg_a d h j then jg_u d S h L' t' s' j + S j t' else jg_u d S h L' t' s' j := by
          intro L' t' s' L2' L4' ht' hs'
          unfold jg_u
          rw [fb_sm_succ]
          unfold jg_q
          rw [hL, a4 s' (by omega)]
          by_cases z : L' = L ∧ s' = jg_a d h j
          · rw [if_pos z, if_pos ⟨z.1.symm, decide_eq_true z.2.symm⟩, Nat.add_assoc]
          · rw [if_neg z, if_neg (fun y => z ⟨y.1.symm, (of_decide_eq_true y.2).symm⟩)]
            rfl
        generalize hA' : jg_a d h j = a at *
        refine hh_lp1_i (fun x σ => ∃ t, t ≤ L ∧ x = nI t ∧ σ.1 = c.1 ∧ σ.2.2.1 = c.2.2.1 ∧ jc_U b (fun L' t' s' => if L' = L ∧ s' = a ∧ t' < t then jg_u d S h L' t' s' (j + 1) else jg_u d S h L' t' s' j) σ) (fun x σ => L - x.toNatClampNeg) ?_ ⟨0, by omega, rfl, hI, hA, fun L' t' s' q1 q2 q3 q4 => by rw [hU L' t' s' q1 q2 q3 q4]; dsimp only; rw [if_neg (fun z => absurd z.2.2 (by omega))]⟩
        clear hI hA hU RC
        rintro K2 x σ2 ⟨t, ht, rfl, hI, hA, hU⟩ hK2
        unfold wq_X2_sumSaid_85
        refine pp_c _ (pp_le (by omega) (by omega)) (fun e2 => ?_) (fun e2 => s2_spot L2 ⟨pp_in (by omega) (by omega), pp_in (by omega) (by omega), pp_in (by omega) (by omega), pp_in (by omega) (by omega), ?_⟩)
        · have e2 : t = L := by omega
          subst e2
          rw [show nI j + 1 = nI (j + 1) from nI_1 j]
          refine hK _ _ ⟨j + 1, by omega, rfl, hI, hA, fun L' t' s' q1 q2 q3 q4 => ?_⟩ mu
          rw [hU L' t' s' q1 q2 q3 q4]
          show lN (if _ then _ else _) = lN (jg_u d S h L' t' s' (j + 1))
          by_cases z : L' = t ∧ s' = a ∧ t' < t
          · rw [if_pos z]
          · rw [if_neg z, sU L' t' s' q1 q2 q3 q4, if_neg (fun y => z ⟨y.1, y.2, by omega⟩)]
        · intro σ3 e3
          have hs : S j t ≤ 1000000 := B j (by omega) t (by omega)
          have rd : hh_a σ2 (55 + 34 * b + j) t = nI (S j t) := by
            have := HS j (by omega) t (by omega)
            unfold hh_a at this ⊢
            rw [hA]
            exact this
          have hU1 := hU L t a L2 L4 (by omega) a1
          dsimp only at hU1
          rw [if_neg (fun z => absurd z.2.2 (by omega))] at hU1
          rw [pp_rB (by omega), hU1, pp_cl (by omega), pp_rA (by omega), rd, nI_I (by omega), lN_add] at e3
          rw [show nI t + 1 = nI (t + 1) from nI_1 t]
          refine hK2 _ _ ⟨t + 1, by omega, rfl, by rw [e3]; exact hI, by rw [e3]; exact hA, fun L' t' s' q1 q2 q3 q4 => ?_⟩ (by rw [pp_cl (by omega), pp_cl (by omega)]; omega)
          rw [e3, pp_sB_b (by omega)]
          by_cases z : 16 * (L' - 2) + 4 * t' + s' = 16 * (L - 2) + 4 * t + a
          · have z1 : L' = L := by omega
            have z2 : t' = t := by omega
            have z3 : s' = a := by omega
            subst z1 z2 z3
            rw [if_pos ⟨rfl, rfl⟩]
            dsimp only
            rw [if_pos ⟨rfl, rfl, by omega⟩, sU L' t' s' q1 q2 q3 q4, if_pos ⟨rfl, rfl⟩]
          · rw [if_neg (fun y => z y.2), hU L' t' s' q1 q2 q3 q4]
            dsimp only
            by_cases y : L' = L ∧ s' = a ∧ t' < t
            · rw [if_pos y, if_pos ⟨y.1, y.2.1, by omega⟩]
            · rw [if_neg y, if_neg (fun w2 => y ⟨w2.1, w2.2.1, by
                obtain ⟨y1, y2, y3⟩ := w2
                by_cases y4 : t' = t
                · exact absurd (by rw [y1, y2, y4]) z
                · omega⟩)]
  · intro σ5 e5
    rw [jc_0, show hh_a σ 29 0 = nI v from (congrFun (congrFun hA 29) 0).trans v3, nI_I (by omega), show (10000 : Int64) = lN 10000 from rfl, lN_mul, Nat.mul_comm v 10000] at e5
    rw [show nI j + 1 = nI (j + 1) from nI_1 j]
    refine hK _ _ ⟨j + 1, by omega, rfl, by rw [e5]; exact hI, by rw [e5]; exact hA, fun p hp => ?_⟩ (by rw [pp_cl (by omega), pp_cl (by omega)]; omega)
    rw [e5, pp_sB_b (by omega)]
    by_cases z : p = j
    · rw [if_pos ⟨rfl, z⟩]
    · rw [if_neg (fun y => z y.2)]
      exact hV p (by omega)
