/-! ===== better ===== -/
def mm_b1 (r : Bool) (v : Nat) (a : Nat × Nat × Nat × Nat) : Nat × Nat × Nat × Nat := (a.1 + 1, a.2.1 + (if r = true then 1 else 0), a.2.2.1 + v, a.2.2.2 + v * (if r = true then 1 else 0))
def mm_bi (t r : Nat → Bool) (v : Nat) (a : Nat × Nat × Nat × Nat) : Nat → Nat × Nat × Nat × Nat
  | 0 => a
  | i + 1 => if (mm_bi t r v a i).1 < 40 ∧ t i = true then mm_b1 (r i) v (mm_bi t r v a i) else mm_bi t r v a i
def mm_vr (m : hh_S) (h : Nat) : Nat := (hh_a m 12 h).toNatClampNeg
def mm_bo (m : hh_S) (ni : Nat) : Nat → Nat × Nat × Nat × Nat
  | 0 => (0, 0, 0, 0)
  | h + 1 => mm_bi (mm_tk m h) (mm_rt m h) (mm_vr m h) (mm_bo m ni h) ni
def mm_bk (a : Nat × Nat × Nat × Nat) : Prop := a.1 ≤ 40 ∧ a.2.1 ≤ a.1 ∧ a.2.2.1 ≤ a.1 ∧ a.2.2.2 ≤ a.2.2.1 ∧ a.2.2.2 ≤ a.2.1
theorem mm_b1_k {r : Bool} {v : Nat} {a : Nat × Nat × Nat × Nat} (hv : v ≤ 1) (h : mm_bk a) (h40 : a.1 < 40) : mm_bk (mm_b1 r v a) := by
  obtain ⟨h1, h2, h3, h4, h5⟩ := h
  unfold mm_b1 mm_bk
  cases r
  · rw [if_neg (by decide), Nat.mul_zero]
    exact ⟨by omega, by show a.2.1 + 0 ≤ a.1 + 1; omega, by show a.2.2.1 + v ≤ a.1 + 1; omega, by show a.2.2.2 + 0 ≤ a.2.2.1 + v; omega, by show a.2.2.2 + 0 ≤ a.2.1 + 0; omega⟩
  · rw [if_pos rfl, Nat.mul_one]
    exact ⟨by omega, by show a.2.1 + 1 ≤ a.1 + 1; omega, by show a.2.2.1 + v ≤ a.1 + 1; omega, by show a.2.2.2 + v ≤ a.2.2.1 + v; omega, by show a.2.2.2 + v ≤ a.2.1 + 1; omega⟩
theorem mm_bi_k {t r : Nat → Bool} {v : Nat} {a : Nat × Nat × Nat × Nat} (hv : v ≤ 1) (h : mm_bk a) : ∀ i, mm_bk (mm_bi t r v a i)
  | 0 => h
  | i + 1 => by
    have ih := mm_bi_k (t := t) (r := r) hv h i
    unfold mm_bi
    split
    · rename_i q
      exact mm_b1_k hv ih q.1
    · exact ih
theorem mm_bi_s {t r : Nat → Bool} {v : Nat} {a : Nat × Nat × Nat × Nat} {i : Nat} (h : 40 ≤ (mm_bi t r v a i).1) : ∀ n, i ≤ n → mm_bi t r v a n = mm_bi t r v a i
  | 0, hn => by rw [show i = 0 by omega]
  | n + 1, hn => by
    by_cases e : i = n + 1
    · rw [e]
    · have ih := mm_bi_s h n (by omega)
      rw [mm_bi, if_neg (fun q => by rw [ih] at q; omega), ih]
theorem mm_bo_k {m : hh_S} {ni nh : Nat} (hv : ∀ h, h < nh → mm_vr m h ≤ 1) : ∀ h, h ≤ nh → mm_bk (mm_bo m ni h)
  | 0, _ => ⟨Nat.zero_le _, Nat.le_refl 0, Nat.le_refl 0, Nat.le_refl 0, Nat.le_refl 0⟩
  | h + 1, hh => mm_bi_k (hv h (by omega)) (mm_bo_k hv h (by omega)) ni
def mm_bf (a : Nat × Nat × Nat × Nat) (k : Nat) : Nat := if k < a.2.2.2 then 0 else mm_ch a.2.2.1 k * mm_cz (a.1 - a.2.2.1) ((a.2.1 : Int) - k)
def mm_bu (a : Nat × Nat × Nat × Nat) : Nat := fb_sm (mm_bf a) (a.2.2.1 + 1)
theorem mm_cz_le (n : Nat) (k : Int) : mm_cz n k ≤ 2 ^ n := by
  unfold mm_cz
  split
  · exact Nat.zero_le _
  · exact mm_ch_le _ _
theorem mm_bf_le {a : Nat × Nat × Nat × Nat} (h : mm_bk a) (k : Nat) : mm_bf a k ≤ 1099511627776 := by
  unfold mm_bf
  split
  · exact Nat.zero_le _
  · have h1 := Nat.mul_le_mul (mm_ch_le a.2.2.1 k) (mm_cz_le (a.1 - a.2.2.1) ((a.2.1 : Int) - k))
    rw [← Nat.pow_add, show a.2.2.1 + (a.1 - a.2.2.1) = a.1 by have := h.2.2.1; omega] at h1
    have h2 : (2 : Nat) ^ a.1 ≤ 2 ^ 40 := Nat.pow_le_pow_right (by decide) h.1
    have h3 : (2 : Nat) ^ 40 = 1099511627776 := by decide
    omega
theorem mm_bu_le {a : Nat × Nat × Nat × Nat} (h : mm_bk a) : mm_bu a < 9223372036854775808 := by
  have h1 : fb_sm (mm_bf a) (a.2.2.1 + 1) ≤ fb_sm (fun _ => 1099511627776) (a.2.2.1 + 1) := fb_sm_le (fun k _ => mm_bf_le h k)
  rw [fb_sm_const] at h1
  have h2 : (a.2.2.1 + 1) * 1099511627776 ≤ 41 * 1099511627776 := Nat.mul_le_mul_right _ (by have := h.1; have := h.2.2.1; omega)
  unfold mm_bu
  omega
theorem pp_subI {a b : Nat} (ha : a ≤ 1000) (hb : b ≤ 1000) : (nI a - nI b).toInt = (a : Int) - b := pk_sub_toInt (by omega) (by omega)
theorem s3_dealt {a : Nat × Nat × Nat × Nat} {c : hh_S} {Q : hh_S → Prop} (h : mm_bk a) (q : ∀ c', rr_fc c c' → c'.2.1 577 = lN (mm_bu a / Nat.gcd (mm_bu a) (mm_ch a.1 a.2.1)) → c'.2.1 578 = lN (mm_ch a.1 a.2.1 / Nat.gcd (mm_bu a) (mm_ch a.1 a.2.1)) → Q c') : wp_X3_dealtAtLeast (nI a.1) (nI a.2.1) (nI a.2.2.1) (nI a.2.2.2) c Q := by
  obtain ⟨A, r, o, l⟩ := a
  have hk := id h
  obtain ⟨h1, h2, h3, h4, h5⟩ := h
  dsimp only at h1 h2 h3 h4 h5 ⊢
  unfold wp_X3_dealtAtLeast
  refine hh_lp2_i (fun x y σ => ∃ k, l ≤ k ∧ k ≤ o + 1 ∧ y = nI k ∧ x = lN (fb_sm (mm_bf (A, r, o, l)) k) ∧ c = σ) (fun x y σ => o + 1 - y.toNatClampNeg) ?_ ⟨l, Nat.le_refl l, by omega, rfl, by rw [fb_sm_0 (f := mm_bf (A, r, o, l)) (fun k hk => if_pos hk)]; rfl, rfl⟩
  rintro K x y σ ⟨k, hk1, hk2, rfl, rfl, rfl⟩ hK
  unfold wq_X3_dealtAtLeast_7
  refine pp_c _ (pp_lt (by omega) (by omega)) (fun e => ?_) (fun e => ?_)
  · have e : k = o + 1 := by omega
    subst e
    refine s3_choose (k := (r : Int)) h1 (nI_toInt (by omega)) (by omega) ?_
    rw [mm_cz_n]
    have hb := mm_ch_40 (n := A) (k := r) h1
    exact s3_reduce (mm_bu_le hk) (by omega) (mm_ch_pos A r h2) (q _ ⟨fun _ _ => rfl, rfl⟩ rfl rfl)
  · refine s3_choose (k := (k : Int)) (by omega) (nI_toInt (by omega)) (by omega) ?_
    rw [pk_sub (show o ≤ A by omega)]
    refine s3_choose (k := (r : Int) - k) (by omega) (pp_subI (by omega) (by omega)) (by omega) ?_
    rw [mm_cz_n, lN_mul, lN_add, show nI k + 1 = nI (k + 1) from nI_1 k]
    rintro v rfl
    refine hK _ _ _ ⟨k + 1, by omega, by omega, rfl, ?_, rfl⟩ (by rw [pp_cl (by omega), pp_cl (by omega)]; omega)
    rw [fb_sm_succ, show mm_bf (A, r, o, l) k = mm_ch o k * mm_cz (A - o) ((r : Int) - k) from if_neg (by show ¬ k < l; omega)]
theorem fb_sm_st {f : Nat → Nat} {a : Nat} : ∀ {n : Nat}, a ≤ n → (∀ k, a ≤ k → k < n → f k = 0) → fb_sm f n = fb_sm f a
  | 0, h, _ => by rw [show a = 0 by omega]
  | n + 1, h, h2 => by
    by_cases e : a = n + 1
    · rw [e]
    · rw [fb_sm_succ, fb_sm_st (show a ≤ n by omega) (fun k h3 h4 => h2 k h3 (by omega)), h2 n (by omega) (by omega)]
      rfl
theorem s9_dealt {a : Nat × Nat × Nat × Nat} {x : Int32} {m : hh_S} {Q : Int64 → hh_S → Prop} (h : mm_bk a) (q : (x = 0 → Q (lN (mm_bu a / Nat.gcd (mm_bu a) (mm_ch a.1 a.2.1))) m) ∧ (¬ x = 0 → Q (lN (mm_ch a.1 a.2.1 / Nat.gcd (mm_bu a) (mm_ch a.1 a.2.1))) m)) : ∃ n : Nat, hh_lp2 (wq_X9_better_146 x (nI a.1) (nI a.2.1) (nI a.2.2.1) Q) n 0 (nI a.2.2.2) m := by
  obtain ⟨A, r, o, l⟩ := a
  have hk := id h
  obtain ⟨h1, h2, h3, h4, h5⟩ := h
  dsimp only at h1 h2 h3 h4 h5 q ⊢
  refine hh_lp2_i (fun y z σ => ∃ k, l ≤ k ∧ k ≤ o + 1 ∧ k ≤ r + 1 ∧ z = nI k ∧ y = lN (fb_sm (mm_bf (A, r, o, l)) k) ∧ m = σ) (fun y z σ => o + 1 - z.toNatClampNeg) ?_ ⟨l, Nat.le_refl l, by omega, by omega, rfl, by rw [fb_sm_0 (f := mm_bf (A, r, o, l)) (fun k hk => if_pos hk)]; rfl, rfl⟩
  rintro K y z σ ⟨k, hk1, hk2, hk3, rfl, rfl, rfl⟩ hK
  unfold wq_X9_better_146
  have fin : fb_sm (mm_bf (A, r, o, l)) k = mm_bu (A, r, o, l) → wp_X9_choose (nI A) (nI r) m (fun r2 σ3 => wp_X9_term (lN (fb_sm (mm_bf (A, r, o, l)) k)) r2 x σ3 (fun r4 σ5 => Q r4 σ5)) := by
    intro e
    rw [e]
    refine s9_choose (k := (r : Int)) h1 (nI_toInt (by omega)) (by omega) ?_
    rw [mm_cz_n]
    have hb := mm_ch_40 (n := A) (k := r) h1
    exact s9_term (mm_bu_le hk) (by omega) (mm_ch_pos A r h2) q
  refine pp_c _ (pp_lt (by omega) (by omega)) (fun e => fin (by rw [show k = o + 1 by omega]; rfl)) (fun e => ?_)
  refine pp_c _ (pp_lt (by omega) (by omega)) (fun e2 => fin ?_) (fun e2 => ?_)
  · refine (fb_sm_st (by omega) (fun k' h6 h7 => ?_)).symm
    unfold mm_bf
    split
    · rfl
    · show _ * mm_cz (A - o) ((r : Int) - k') = 0
      rw [show mm_cz (A - o) ((r : Int) - k') = 0 from if_pos (by omega), Nat.mul_zero]
  · refine s9_choose (k := (k : Int)) (by omega) (nI_toInt (by omega)) (by omega) ?_
    rw [pk_sub (show o ≤ A by omega)]
    refine s9_choose (k := (r : Int) - k) (by omega) (pp_subI (by omega) (by omega)) (by omega) ?_
    rw [mm_cz_n, lN_mul, lN_add, show nI k + 1 = nI (k + 1) from nI_1 k]
    rintro v rfl
    refine hK _ _ _ ⟨k + 1, by omega, by omega, by omega, rfl, ?_, rfl⟩ (by rw [pp_cl (by omega), pp_cl (by omega)]; omega)
    rw [fb_sm_succ, show mm_bf (A, r, o, l) k = mm_ch o k * mm_cz (A - o) ((r : Int) - k) from if_neg (by show ¬ k < l; omega)]
theorem ps_better (x : Int32) : RR_l (wp_X8_better x) (wp_X9_better x) := by
  rintro c m R
  obtain ⟨sn, ns, ni, nh, R1, RC, R7, R8, R9⟩ := id R
  obtain ⟨h10, f1, f2, f3⟩ := RC.2.2.1
  obtain ⟨h24, e1, e2, e3⟩ := RC.2.1
  unfold wp_X8_better
  by_cases y0 : x < 0
  · refine pp_t y0 ?_
    unfold wp_X9_better
    exact s9_inF (fun w => w.1 y0) (pp_nt rfl ⟨rfl, R⟩)
  refine pp_f y0 ?_
  by_cases y1 : ¬ x ≤ 1
  · refine pp_f y1 ?_
    unfold wp_X9_better
    exact s9_inF (fun w => w.2 (fa_of_nle y1)) (pp_nt rfl ⟨rfl, R⟩)
  have y1 := Classical.not_not.mp y1
  refine pp_t y1 ?_
  have vr : ∀ h, h < nh → hh_a m 12 h = nI (mm_vr m h) ∧ mm_vr m h ≤ 1 ∧ hh_a c 27 h = nI (mm_vr m h) := by
    intro h hh
    obtain ⟨-, -, k3, k4⟩ := f3 h hh
    unfold mm_vr
    rcases k4 with k | k
    · rw [k3, k]
      exact ⟨rfl, by decide, rfl⟩
    · rw [k3, k]
      exact ⟨rfl, by decide, rfl⟩
  have bk : ∀ h, h ≤ nh → mm_bk (mm_bo m ni h) := mm_bo_k (fun h hh => (vr h hh).2.1)
  have M : ∀ Q : Int64 → hh_S → Prop, ((x = 0 → Q (lN (mm_bu (mm_bo m ni nh) / Nat.gcd (mm_bu (mm_bo m ni nh)) (mm_ch (mm_bo m ni nh).1 (mm_bo m ni nh).2.1))) m) ∧ (¬ x = 0 → Q (lN (mm_ch (mm_bo m ni nh).1 (mm_bo m ni nh).2.1 / Nat.gcd (mm_bu (mm_bo m ni nh)) (mm_ch (mm_bo m ni nh).1 (mm_bo m ni nh).2.1))) m)) → wp_X9_better x m Q := by
    intro Q q
    unfold wp_X9_better
    refine s9_inT y0 (pp_part y0 y1) (pp_nf (by decide) ?_)
    refine hh_lp5_i (fun a b d f g σ => ∃ h, h ≤ nh ∧ g = nI h ∧ a = nI (mm_bo m ni h).1 ∧ b = nI (mm_bo m ni h).2.1 ∧ d = nI (mm_bo m ni h).2.2.1 ∧ f = nI (mm_bo m ni h).2.2.2 ∧ m = σ) (fun a b d f g σ => nh - g.toNatClampNeg) ?_ ⟨0, by omega, rfl, rfl, rfl, rfl, rfl, rfl⟩
    rintro K a b d f g σ ⟨h, hh, rfl, rfl, rfl, rfl, rfl, rfl⟩ hK
    unfold wq_X9_better_26
    show (m.1 13 ≤ nI h → _) ∧ (¬ m.1 13 ≤ nI h → _)
    rw [f2]
    refine pp_c _ (pp_le (by omega) (by omega)) (fun e => ?_) (fun e => ?_)
    · have e : h = nh := by omega
      subst e
      exact s9_dealt (bk h (by omega)) q
    · obtain ⟨v1, v2, v3⟩ := vr h (by omega)
      generalize hB : mm_bo m ni h = B at *
      have kB : mm_bk B := by rw [← hB]; exact bk h hh
      let S : Nat → Nat × Nat × Nat × Nat := mm_bi (mm_tk m h) (mm_rt m h) (mm_vr m h) B
      have kS : ∀ i, mm_bk (S i) := mm_bi_k v2 kB
      have nx : mm_bo m ni (h + 1) = S ni := by rw [mm_bo, hB]
      refine hh_lp5_i (fun a b d f g σ => ∃ i, i ≤ ni ∧ g = nI i ∧ a = nI (S i).1 ∧ b = nI (S i).2.1 ∧ d = nI (S i).2.2.1 ∧ f = nI (S i).2.2.2 ∧ m = σ) (fun a b d f g σ => ni - g.toNatClampNeg) ?_ ⟨0, by omega, rfl, rfl, rfl, rfl, rfl, rfl⟩
      rintro K2 a b d f g σ ⟨i, hi, rfl, rfl, rfl, rfl, rfl, rfl⟩ hK2
      unfold wq_X9_better_38
      obtain ⟨s1, s2, s3, s4, s5⟩ := kS i
      have done : S i = S ni → K (nI (S i).1) (nI (S i).2.1) (nI (S i).2.2.1) (nI (S i).2.2.2) (nI h + 1) m := by
        intro w
        rw [show nI h + 1 = nI (h + 1) from nI_1 h]
        exact hK _ _ _ _ _ _ ⟨h + 1, by omega, rfl, by rw [nx, w], by rw [nx, w], by rw [nx, w], by rw [nx, w], rfl⟩ (by rw [pp_cl (by omega), pp_cl (by omega)]; omega)
      show (m.1 7 ≤ nI i → _) ∧ (¬ m.1 7 ≤ nI i → _)
      rw [e2]
      refine pp_c _ (pp_le (by omega) (by omega)) (fun w => done (by rw [show i = ni by omega])) (fun w => ?_)
      rw [show (40 : Int32) = nI 40 from rfl]
      refine pp_c _ (pp_le (by omega) (by omega)) (fun w2 => done (mm_bi_s w2 ni hi).symm) (fun w2 => ⟨pp_in (by omega) (by omega), ?_⟩)
      have stay : mm_tk m h i = false → K2 (nI (S i).1) (nI (S i).2.1) (nI (S i).2.2.1) (nI (S i).2.2.2) (nI i + 1) m := by
        intro w3
        have E : S (i + 1) = S i := by show mm_bi _ _ _ _ (i + 1) = _; rw [mm_bi, if_neg (fun z => by rw [w3] at z; exact absurd z.2 (by decide))]
        rw [show nI i + 1 = nI (i + 1) from nI_1 i]
        exact hK2 _ _ _ _ _ _ ⟨i + 1, by omega, rfl, by rw [E], by rw [E], by rw [E], by rw [E], rfl⟩ (by rw [pp_cl (by omega), pp_cl (by omega)]; omega)
      rw [pp_rA (by omega)]
      by_cases k0 : hh_a m 8 i < 0
      · exact pp_t k0 (stay (by unfold mm_tk; rw [decide_eq_false (fun z => z k0), Bool.and_false]))
      refine pp_f k0 (s9_counts (by omega) (by omega) ?_)
      refine pp_bz (fun w3 => stay (by unfold mm_tk; rw [w3, Bool.false_and])) (fun w3 => ?_)
      have tk : mm_tk m h i = true := by unfold mm_tk; rw [w3, decide_eq_true k0]; rfl
      have E : S (i + 1) = mm_b1 (mm_rt m h i) (mm_vr m h) (S i) := by show mm_bi _ _ _ _ (i + 1) = _; rw [mm_bi, if_pos ⟨by show (S i).1 < 40; omega, tk⟩]
      have T : mm_rt m h i = decide (hh_a m 13 (24 * h + i) = hh_a m 8 i + 1) := by unfold mm_rt; rw [tk, Bool.true_and]
      unfold wp_X9_isRight
      rw [show (24 : Int32) = nI 24 from rfl, pp_idx, pp_rA (by omega), pp_rA (by omega)]
      refine ⟨pp_in (by omega) (by omega), pp_in (by omega) (by omega), ?_⟩
      have mu : ni - (nI (i + 1)).toNatClampNeg < ni - (nI i).toNatClampNeg := by rw [pp_cl (by omega), pp_cl (by omega)]; omega
      have I : vp_in (nI h) 10 := pp_in (by omega) (by omega)
      by_cases w4 : hh_a m 13 (24 * h + i) = hh_a m 8 i + 1
      · have rt : mm_rt m h i = true := by rw [T]; exact decide_eq_true w4
        rw [rt] at E
        refine pp_nt w4 (pp_f (by decide) ?_)
        rw [pp_rA (by omega), v1, show nI i + 1 = nI (i + 1) from nI_1 i, show nI (S i).1 + 1 = nI ((S i).1 + 1) from nI_1 _, show (1 : Int32) = nI 1 from rfl, pk_mul, nI_add, nI_add, nI_add]
        rintro v rfl
        refine ⟨I, ?_⟩
        rintro v rfl
        refine ⟨I, ?_⟩
        rintro v rfl
        exact hK2 _ _ _ _ _ _ ⟨i + 1, by omega, rfl, by rw [E]; rfl, by rw [E]; rfl, by rw [E]; rfl, by rw [E]; rfl, rfl⟩ mu
      · have rt : mm_rt m h i = false := by rw [T]; exact decide_eq_false w4
        rw [rt] at E
        refine pp_nf w4 (pp_t rfl ?_)
        rw [pp_rA (by omega), v1, show nI i + 1 = nI (i + 1) from nI_1 i, show nI (S i).1 + 1 = nI ((S i).1 + 1) from nI_1 _, show (0 : Int32) = nI 0 from rfl, pk_mul, nI_add, nI_add, nI_add]
        rintro v rfl
        refine ⟨I, ?_⟩
        rintro v rfl
        refine ⟨I, ?_⟩
        rintro v rfl
        exact hK2 _ _ _ _ _ _ ⟨i + 1, by omega, rfl, by rw [E]; rfl, by rw [E]; rfl, by rw [E]; rfl, by rw [E]; rfl, rfl⟩ mu
  refine hh_lp5_i (fun a b d f g σ => ∃ h, h ≤ nh ∧ g = nI h ∧ a = nI (mm_bo m ni h).1 ∧ b = nI (mm_bo m ni h).2.1 ∧ d = nI (mm_bo m ni h).2.2.1 ∧ f = nI (mm_bo m ni h).2.2.2 ∧ c = σ) (fun a b d f g σ => nh - g.toNatClampNeg) ?_ ⟨0, by omega, rfl, rfl, rfl, rfl, rfl, rfl⟩
  rintro K a b d f g σ ⟨h, hh, rfl, rfl, rfl, rfl, rfl, rfl⟩ hK
  unfold wq_X8_better_26
  show (c.1 320 ≤ nI h → _) ∧ (¬ c.1 320 ≤ nI h → _)
  rw [f1]
  refine pp_c _ (pp_le (by omega) (by omega)) (fun e => ?_) (fun e => ?_)
  · have e : h = nh := by omega
    subst e
    refine s3_dealt (bk h (by omega)) ?_
    intro c' fc' u1 u2
    exact s3_part ⟨fun w => M _ ⟨fun _ => ⟨u1, rr_f fc' (rr_fm_r m) R⟩, fun w2 => absurd w w2⟩, fun w => M _ ⟨fun w2 => absurd w2 w, fun _ => ⟨u2, rr_f fc' (rr_fm_r m) R⟩⟩⟩
  · obtain ⟨v1, v2, v3⟩ := vr h (by omega)
    generalize hB : mm_bo m ni h = B at *
    have kB : mm_bk B := by rw [← hB]; exact bk h hh
    let S : Nat → Nat × Nat × Nat × Nat := mm_bi (mm_tk m h) (mm_rt m h) (mm_vr m h) B
    have kS : ∀ i, mm_bk (S i) := mm_bi_k v2 kB
    have nx : mm_bo m ni (h + 1) = S ni := by rw [mm_bo, hB]
    refine hh_lp5_i (fun a b d f g σ => ∃ i, i ≤ ni ∧ g = nI i ∧ a = nI (S i).1 ∧ b = nI (S i).2.1 ∧ d = nI (S i).2.2.1 ∧ f = nI (S i).2.2.2 ∧ c = σ) (fun a b d f g σ => ni - g.toNatClampNeg) ?_ ⟨0, by omega, rfl, rfl, rfl, rfl, rfl, rfl⟩
    rintro K2 a b d f g σ ⟨i, hi, rfl, rfl, rfl, rfl, rfl, rfl⟩ hK2
    unfold wq_X8_better_41
    obtain ⟨s1, s2, s3, s4, s5⟩ := kS i
    have done : S i = S ni → K (nI (S i).1) (nI (S i).2.1) (nI (S i).2.2.1) (nI (S i).2.2.2) (nI h + 1) c := by
      intro w
      rw [show nI h + 1 = nI (h + 1) from nI_1 h]
      exact hK _ _ _ _ _ _ ⟨h + 1, by omega, rfl, by rw [nx, w], by rw [nx, w], by rw [nx, w], by rw [nx, w], rfl⟩ (by rw [pp_cl (by omega), pp_cl (by omega)]; omega)
    show (c.1 256 ≤ nI i → _) ∧ (¬ c.1 256 ≤ nI i → _)
    rw [e1]
    refine pp_c _ (pp_le (by omega) (by omega)) (fun w => done (by rw [show i = ni by omega])) (fun w => ?_)
    rw [show (40 : Int32) = nI 40 from rfl]
    refine pp_c _ (pp_le (by omega) (by omega)) (fun w2 => done (mm_bi_s w2 ni hi).symm) (fun w2 => s8_isToKnown RC (by omega) (by omega) ?_)
    refine pp_bz (fun w3 => ?_) (fun tk => s8_isRight RC (by omega) (by omega) ?_)
    · have E : S (i + 1) = S i := by show mm_bi _ _ _ _ (i + 1) = _; rw [mm_bi, if_neg (fun z => by rw [w3] at z; exact absurd z.2 (by decide))]
      rw [show nI i + 1 = nI (i + 1) from nI_1 i]
      exact hK2 _ _ _ _ _ _ ⟨i + 1, by omega, rfl, by rw [E], by rw [E], by rw [E], by rw [E], rfl⟩ (by rw [pp_cl (by omega), pp_cl (by omega)]; omega)
    · have E : S (i + 1) = mm_b1 (mm_rt m h i) (mm_vr m h) (S i) := by show mm_bi _ _ _ _ (i + 1) = _; rw [mm_bi, if_pos ⟨by show (S i).1 < 40; omega, tk⟩]
      rw [pp_rA (by omega), v3, show nI i + 1 = nI (i + 1) from nI_1 i, show nI (S i).1 + 1 = nI ((S i).1 + 1) from nI_1 _]
      have mu : ni - (nI (i + 1)).toNatClampNeg < ni - (nI i).toNatClampNeg := by rw [pp_cl (by omega), pp_cl (by omega)]; omega
      have I : vp_in (nI h) 10 := pp_in (by omega) (by omega)
      refine pp_bz (fun rt => ?_) (fun rt => ?_)
      · rw [rt] at E
        rw [show (0 : Int32) = nI 0 from rfl, pk_mul, nI_add, nI_add, nI_add]
        rintro v rfl
        refine ⟨I, ?_⟩
        rintro v rfl
        refine ⟨I, ?_⟩
        rintro v rfl
        exact hK2 _ _ _ _ _ _ ⟨i + 1, by omega, rfl, by rw [E]; rfl, by rw [E]; rfl, by rw [E]; rfl, by rw [E, Nat.mul_comm]; rfl, rfl⟩ mu
      · rw [rt] at E
        rw [show (1 : Int32) = nI 1 from rfl, pk_mul, nI_add, nI_add, nI_add]
        rintro v rfl
        refine ⟨I, ?_⟩
        rintro v rfl
        refine ⟨I, ?_⟩
        rintro v rfl
        exact hK2 _ _ _ _ _ _ ⟨i + 1, by omega, rfl, by rw [E]; rfl, by rw [E]; rfl, by rw [E]; rfl, by rw [E, Nat.mul_comm]; rfl, rfl⟩ mu
