/-! ===== plan ===== -/
def mm_gt (q n k : Nat) : Nat := if k < n / 2 + 1 then 0 else mm_ch n k * q ^ k * (100 - q) ^ (n - k)
def mm_gp (q n : Nat) : Nat := fb_sm (mm_gt q n) (n + 1)
theorem fb_sm_0 {f : Nat → Nat} {n : Nat} (h : ∀ k, k < n → f k = 0) : fb_sm f n = 0 := by
  induction n with
  | zero => rfl
  | succ n ih => rw [fb_sm_succ, ih (fun k hk => h k (by omega)), h n (by omega)]
theorem mm_cz_n (n k : Nat) : mm_cz n (k : Int) = mm_ch n k := by
  unfold mm_cz
  rw [if_neg (by omega)]
  rfl
theorem s3_greaterPart {q n : Nat} {c : hh_S} {Q : Int64 → hh_S → Prop} (hq : q ≤ 100) (hn : n ≤ 9) (r : Q (lN (mm_gp q n)) c) : wp_X3_greaterPart (nI q) (nI n) c Q := by
  unfold wp_X3_greaterPart
  rw [show (2 : Int32) = nI 2 from rfl, pk_div (by omega) (by omega) (by omega), show nI (n / 2) + 1 = nI (n / 2 + 1) from nI_1 _]
  rintro v rfl
  refine hh_lp2_i (fun a x σ => ∃ k, n / 2 + 1 ≤ k ∧ k ≤ n + 1 ∧ x = nI k ∧ a = lN (fb_sm (mm_gt q n) k) ∧ c = σ) (fun a x σ => n + 1 - x.toNatClampNeg) ?_ ⟨n / 2 + 1, Nat.le_refl _, by omega, rfl, by rw [fb_sm_0 (f := mm_gt q n) (fun k hk => if_pos hk)]; rfl, rfl⟩
  rintro K a x σ ⟨k, hk1, hk, rfl, rfl, rfl⟩ hK
  unfold wq_X3_greaterPart_9
  refine pp_c _ (pp_lt (by omega) (by omega)) (fun h => ?_) (fun h => ?_)
  · have h : k = n + 1 := by omega
    subst h
    exact r
  · refine s3_choose (k := (k : Int)) (by omega) (nI_toInt (by omega)) (by omega) (s3_power (by omega) (by omega) ?_)
    rw [show (100 : Int32) = nI 100 from rfl, pk_sub hq, pk_sub (show k ≤ n by omega)]
    refine s3_power (by omega) (by omega) ?_
    rw [mm_cz_n, lN_mul, lN_mul, lN_add, show nI k + 1 = nI (k + 1) from nI_1 k]
    rintro v rfl
    refine hK _ _ _ ⟨k + 1, by omega, by omega, rfl, ?_, rfl⟩ (by rw [pp_cl (by omega), pp_cl (by omega)]; omega)
    rw [fb_sm_succ, show mm_gt q n k = mm_ch n k * q ^ k * (100 - q) ^ (n - k) from if_neg (by omega)]
def mm_pl (q s t : Nat) : Bool := decide (¬ lg_cmp (lN (mm_gp q (2 * t + 1))) (lN (s * 10000 ^ t)) < 0)
theorem s9_plan {q s : Nat} {m : hh_S} {Q : Int32 → hh_S → Prop} (hq : q ≤ 100) (hs : s ≤ 100) (r0 : ¬ fa_first (mm_pl q s) 5 < 5 → Q (-6) m) (r1 : ∀ t, t < 5 → fa_first (mm_pl q s) 5 = t → Q (nI (2 * t + 1)) m) : wp_X9_plan (nI q) (nI s) m Q := by
  unfold wp_X9_plan
  rw [show (100 : Int32) = nI 100 from rfl]
  refine s9_inT (pp_p0 (by omega)) (by rw [pp_lt (by omega) (by omega)]; omega) (pp_f (by decide) (s9_inT (pp_p0 (by omega)) (by rw [pp_lt (by omega) (by omega)]; omega) (pp_nf (by decide) ?_)))
  rw [nI_I (by omega)]
  rintro v rfl
  refine hh_lp2_i (fun a x σ => ∃ t, t ≤ 5 ∧ x = nI (2 * t + 1) ∧ a = lN (s * 10000 ^ t) ∧ (∀ k, k < t → mm_pl q s k = false) ∧ m = σ) (fun a x σ => 11 - x.toNatClampNeg) ?_ ⟨0, by omega, rfl, by rw [Nat.pow_zero, Nat.mul_one], fun k hk => absurd hk (Nat.not_lt_zero k), rfl⟩
  rintro K a x σ ⟨t, ht, rfl, rfl, hf, rfl⟩ hK
  unfold wq_X9_plan_29
  rw [show (9 : Int32) = nI 9 from rfl]
  refine pp_c _ (pp_lt (by omega) (by omega)) (fun h => ?_) (fun h => ?_)
  · have h : t = 5 := by omega
    subst h
    exact r0 (by rw [pp_first_none hf]; omega)
  · rw [show (2 : Int32) = nI 2 from rfl, pk_div (by omega) (by omega) (by omega), show nI ((2 * t + 1) / 2) + 1 = nI ((2 * t + 1) / 2 + 1) from nI_1 _]
    rintro v rfl
    generalize hn : 2 * t + 1 = n at *
    refine hh_lp2_i (fun a x σ => ∃ k, n / 2 + 1 ≤ k ∧ k ≤ n + 1 ∧ x = nI k ∧ a = lN (fb_sm (mm_gt q n) k) ∧ m = σ) (fun a x σ => n + 1 - x.toNatClampNeg) ?_ ⟨n / 2 + 1, Nat.le_refl _, by omega, rfl, by rw [fb_sm_0 (f := mm_gt q n) (fun k hk => if_pos hk)]; rfl, rfl⟩
    rintro K2 a x σ ⟨k, hk1, hk, rfl, rfl, rfl⟩ hK2
    unfold wq_X9_plan_47
    refine pp_c _ (pp_lt (by omega) (by omega)) (fun h1 => ?_) (fun h1 => ?_)
    · have h1 : k = n + 1 := by omega
      subst h1
      by_cases h2 : lg_cmp (lN (fb_sm (mm_gt q n) (n + 1))) (lN (s * 10000 ^ t)) < 0
      · refine pp_t h2 ?_
        rw [show (10000 : Int64) = lN 10000 from rfl, lN_mul, show (2 : Int32) = nI 2 from rfl, nI_add]
        rintro v rfl
        refine hK _ _ _ ⟨t + 1, by omega, by rw [show 2 * (t + 1) + 1 = n + 2 by omega], by rw [Nat.pow_succ, Nat.mul_assoc], fun j hj => ?_, rfl⟩ (by rw [pp_cl (by omega), pp_cl (by omega)]; omega)
        by_cases e : j = t
        · subst e
          unfold mm_pl
          rw [hn]
          exact decide_eq_false (fun w => w h2)
        · exact hf j (by omega)
      · refine pp_f h2 ?_
        have := r1 t (by omega) (pp_first_is (k := t) (by omega) (by unfold mm_pl; rw [hn]; exact decide_eq_true h2) hf)
        rw [hn] at this
        exact this
    · refine s9_choose (k := (k : Int)) (by omega) (nI_toInt (by omega)) (by omega) ?_
      rw [mm_cz_n]
      refine hh_lp2_i (fun a x σ => ∃ i, i ≤ n ∧ x = nI i ∧ a = lN (mm_ch n k * q ^ (if i < k then i else k) * (100 - q) ^ (i - k)) ∧ m = σ) (fun a x σ => n - x.toNatClampNeg) ?_ ⟨0, by omega, rfl, by rw [if_pos (by omega), Nat.zero_sub, Nat.pow_zero, Nat.pow_zero, Nat.mul_one, Nat.mul_one], rfl⟩
      rintro K3 a x σ ⟨i, hi, rfl, rfl, rfl⟩ hK3
      unfold wq_X9_plan_66
      refine pp_c _ (pp_le (by omega) (by omega)) (fun h2 => ?_) (fun h2 => ?_)
      · have h2 : i = n := by omega
        subst h2
        rw [if_neg (by omega), lN_add, show nI k + 1 = nI (k + 1) from nI_1 k]
        refine hK2 _ _ _ ⟨k + 1, by omega, by omega, rfl, ?_, rfl⟩ (by rw [pp_cl (by omega), pp_cl (by omega)]; omega)
        rw [fb_sm_succ, show mm_gt q i k = mm_ch i k * q ^ k * (100 - q) ^ (i - k) from if_neg (by omega)]
      · rw [show (100 : Int32) = nI 100 from rfl, pk_sub hq, nI_I (by omega), nI_I (by omega), lN_mul, lN_mul, show nI i + 1 = nI (i + 1) from nI_1 i]
        have mu : n - (nI (i + 1)).toNatClampNeg < n - (nI i).toNatClampNeg := by rw [pp_cl (by omega), pp_cl (by omega)]; omega
        refine pp_c _ (pp_le (by omega) (by omega)) (fun h3 => ?_) (fun h3 => ?_)
        · rintro v rfl
          refine hK3 _ _ _ ⟨i + 1, by omega, rfl, ?_, rfl⟩ mu
          rw [if_neg (by omega), if_neg (by omega), show i + 1 - k = (i - k) + 1 by omega, Nat.pow_succ, Nat.mul_assoc]
        · rintro v rfl
          refine hK3 _ _ _ ⟨i + 1, by omega, rfl, ?_, rfl⟩ mu
          rw [if_pos (by omega), show (if i + 1 < k then i + 1 else k) = i + 1 by split <;> omega, show i + 1 - k = 0 by omega, show i - k = 0 by omega, Nat.pow_zero, Nat.mul_one, Nat.mul_one, Nat.pow_succ, Nat.mul_assoc]
theorem pp_100 {x : Int32} (h1 : ¬ x < 0) (h2 : ¬ 100 < x) : ∃ q, q ≤ 100 ∧ x = nI q := by
  obtain ⟨j, hj, rfl⟩ := nI_of h1
  refine ⟨j, ?_, rfl⟩
  rw [show (100 : Int32) = nI 100 from rfl, pp_lt (by omega) hj] at h2
  omega
theorem ps_plan (x y : Int32) : RR_i (wp_X8_plan x y) (wp_X9_plan x y) := by
  rintro c m R
  unfold wp_X8_plan
  have N : ¬ (¬ x < 0 ∧ ¬ 100 < x) ∨ ¬ (¬ y < 0 ∧ ¬ 100 < y) → wp_X9_plan x y m (fun r' m' => (-2 : Int32) = r' ∧ RR_s c m') := by
    intro h
    unfold wp_X9_plan
    by_cases h1 : ¬ x < 0 ∧ ¬ 100 < x
    · refine s9_inT h1.1 h1.2 (pp_f (by decide) (s9_inF (fun w => ?_) (pp_nt rfl ⟨rfl, R⟩)))
      rcases h with h | h
      · exact h h1
      · exact h w
    · exact s9_inF h1 (pp_t rfl ⟨rfl, R⟩)
  by_cases h1 : x < 0
  · exact pp_t h1 (N (Or.inl (fun w => w.1 h1)))
  refine pp_f h1 ?_
  by_cases h2 : 100 < x
  · exact pp_t h2 (N (Or.inl (fun w => w.2 h2)))
  refine pp_f h2 ?_
  by_cases h3 : y < 0
  · exact pp_t h3 (N (Or.inr (fun w => w.1 h3)))
  refine pp_f h3 ?_
  by_cases h4 : ¬ y ≤ 100
  · exact pp_f h4 (N (Or.inr (fun w => w.2 (fa_of_nle h4))))
  have h4 := Classical.not_not.mp h4
  refine pp_t h4 ?_
  obtain ⟨q, hq, rfl⟩ := pp_100 h1 h2
  obtain ⟨s, hs, rfl⟩ := pp_100 h3 (fun w => (fa_of_lt w).2.1 h4)
  refine hh_lp1_i (fun z σ => ∃ t, t ≤ 5 ∧ z = nI (2 * t + 1) ∧ (∀ k, k < t → mm_pl q s k = false) ∧ c = σ) (fun z σ => 11 - z.toNatClampNeg) ?_ ⟨0, by omega, rfl, fun k hk => absurd hk (Nat.not_lt_zero k), rfl⟩
  rintro K z σ ⟨t, ht, rfl, hf, rfl⟩ hK
  unfold wq_X8_plan_25
  rw [show (9 : Int32) = nI 9 from rfl]
  refine pp_c _ (pp_lt (by omega) (by omega)) (fun h => ?_) (fun h => ?_)
  · have h : t = 5 := by omega
    subst h
    exact s9_plan hq hs (fun _ => ⟨rfl, R⟩) (fun b hb hf' => absurd (pp_first_none hf) (by omega))
  · refine s3_greaterPart hq (by omega) ?_
    rw [show nI (2 * t + 1) - 1 = nI (2 * t) from nI_pred _, show (100 : Int32) = nI 100 from rfl]
    refine s3_power (by omega) (by omega) ?_
    rw [nI_I (by omega), lN_mul, show (100 : Nat) ^ (2 * t) = 10000 ^ t from by rw [Nat.pow_mul], show (2 : Int32) = nI 2 from rfl, nI_add]
    by_cases h5 : lg_cmp (lN (mm_gp q (2 * t + 1))) (lN (s * 10000 ^ t)) < 0
    · refine pp_t h5 (hK _ _ ⟨t + 1, by omega, by rw [show 2 * (t + 1) + 1 = 2 * t + 1 + 2 by omega], fun j hj => ?_, rfl⟩ (by rw [pp_cl (by omega), pp_cl (by omega)]; omega))
      by_cases e : j = t
      · subst e
        exact decide_eq_false (fun w => w h5)
      · exact hf j (by omega)
    · have hft := pp_first_is (k := t) (n := 5) (by omega) (show mm_pl q s t = true from decide_eq_true h5) hf
      refine pp_f h5 (s9_plan hq hs (fun w => absurd (by rw [hft]; omega) w) (fun b hb hf' => ?_))
      rw [hft] at hf'
      subst hf'
      exact ⟨rfl, R⟩
/-! ===== the ways ===== -/
/-- ways after the draws among the first j -/
def mm_gw (p : Nat → Bool) (L : Nat → Nat) : Nat → Nat → Nat
  | 0, k => if k = 0 then 1 else 0
  | j + 1, k => if p j = true then mm_gw p L j k * (L j - 1) + (if k = 0 then 0 else mm_gw p L j (k - 1)) else mm_gw p L j k
def mm_ga (p : Nat → Bool) (L : Nat → Nat) : Nat → Nat
  | 0 => 1
  | j + 1 => if p j = true then mm_ga p L j * L j else mm_ga p L j
theorem mm_gw_0 (p : Nat → Bool) (L : Nat → Nat) : ∀ j k, fb_ct p j < k → mm_gw p L j k = 0
  | 0, k, h => if_neg (by have : fb_ct p 0 = 0 := rfl; omega)
  | j + 1, k, h => by
    unfold mm_gw
    rw [fb_ct_succ] at h
    by_cases e : p j = true
    · rw [if_pos e] at h
      rw [if_pos e, mm_gw_0 p L j k (by omega), if_neg (by omega), mm_gw_0 p L j (k - 1) (by omega), Nat.zero_mul]
    · rw [if_neg e] at h
      rw [if_neg e]
      exact mm_gw_0 p L j k (by omega)
theorem fb_sm_s (f : Nat → Nat) (n : Nat) : fb_sm f (n + 1) = f 0 + fb_sm (fun k => f (k + 1)) n := by
  induction n with
  | zero => rw [fb_sm_succ]; show 0 + f 0 = f 0 + 0; omega
  | succ n ih => rw [fb_sm_succ, ih, fb_sm_succ]; omega
theorem fb_sm_mulr (f : Nat → Nat) (c : Nat) : ∀ n, fb_sm (fun k => f k * c) n = fb_sm f n * c
  | 0 => (Nat.zero_mul c).symm
  | n + 1 => by rw [fb_sm_succ, fb_sm_succ, fb_sm_mulr f c n, Nat.add_mul]
theorem mm_gw_sum {p : Nat → Bool} {L : Nat → Nat} (hL : ∀ j, 1 ≤ L j) : ∀ j, fb_sm (mm_gw p L j) (fb_ct p j + 1) = mm_ga p L j
  | 0 => by
    show fb_sm (mm_gw p L 0) (0 + 1) = 1
    rw [fb_sm_succ]
    rfl
  | j + 1 => by
    have ih := mm_gw_sum hL (p := p) j
    unfold mm_ga
    rw [fb_ct_succ]
    by_cases e : p j = true
    · rw [if_pos e, if_pos e]
      have e1 : ∀ k, mm_gw p L (j + 1) k = mm_gw p L j k * (L j - 1) + (if k = 0 then 0 else mm_gw p L j (k - 1)) := fun k => by rw [mm_gw, if_pos e]
      rw [fb_sm_cong (fun k _ => e1 k), fb_sm_add (fun k => mm_gw p L j k * (L j - 1)) (fun k => if k = 0 then 0 else mm_gw p L j (k - 1)), fb_sm_mulr, fb_sm_s (fun k => if k = 0 then 0 else mm_gw p L j (k - 1))]
      have e2 : fb_sm (mm_gw p L j) (fb_ct p j + 1 + 1) = mm_ga p L j := by
        rw [fb_sm_succ, ih, mm_gw_0 p L j _ (by omega), Nat.add_zero]
      have e3 : fb_sm (fun k => if k + 1 = 0 then 0 else mm_gw p L j (k + 1 - 1)) (fb_ct p j + 1) = mm_ga p L j := by
        rw [← ih]
        exact fb_sm_cong (fun k _ => by rw [if_neg (by omega), Nat.add_sub_cancel])
      rw [e2, e3, if_pos rfl, Nat.zero_add]
      have := hL j
      rw [show L j = (L j - 1) + 1 by omega, Nat.add_sub_cancel, Nat.mul_add, Nat.mul_one]
    · rw [if_neg e, if_neg e, Nat.add_zero, ← ih]
      exact fb_sm_cong (fun k _ => by rw [mm_gw, if_neg e])
theorem mm_ga_le {p : Nat → Bool} {L : Nat → Nat} {N : Nat} (hL : ∀ j, j < N → L j ≤ 4) : ∀ j, j ≤ N → mm_ga p L j ≤ 4 ^ j
  | 0, _ => Nat.le_refl _
  | j + 1, h => by
    have ih := mm_ga_le hL (p := p) j (by omega)
    unfold mm_ga
    rw [Nat.pow_succ]
    split
    · exact Nat.mul_le_mul ih (hL j (by omega))
    · omega
theorem mm_ga_pos {p : Nat → Bool} {L : Nat → Nat} (hL : ∀ j, 1 ≤ L j) : ∀ j, 0 < mm_ga p L j
  | 0 => Nat.one_pos
  | j + 1 => by
    have ih := mm_ga_pos hL (p := p) j
    unfold mm_ga
    split
    · exact Nat.mul_pos ih (hL j)
    · exact ih
