/-! ===== guessing, copying ===== -/
/-- what the class's odds hold: d draws, the ways w -/
def rr_wc (d : Nat) (w : Nat → Nat) (c : hh_S) : Prop := c.1 576 = nI d ∧ ∀ k, k ≤ d → hh_b c 42 k = lN (w k)
def rr_wm (d : Nat) (w : Nat → Nat) (a : Nat) (m : hh_S) : Prop := m.1 35 = nI d ∧ m.2.1 34 = lN a ∧ ∀ k, k < 25 → hh_b m 26 k = lN (w k)
/-- the class's states that differ in the odds alone -/
def rr_fc (c c' : hh_S) : Prop := (∀ k, k ≠ 576 → c'.1 k = c.1 k) ∧ c'.2.2.1 = c.2.2.1
def rr_fm (m m' : hh_S) : Prop := (∀ k, k ≠ 35 → m'.1 k = m.1 k) ∧ m'.2.2.1 = m.2.2.1
theorem rr_fc_r (c : hh_S) : rr_fc c c := ⟨fun _ _ => rfl, rfl⟩
theorem rr_fm_r (m : hh_S) : rr_fm m m := ⟨fun _ _ => rfl, rfl⟩
theorem rr_fc_C {ns ni nh : Nat} {c c' m : hh_S} (h : rr_fc c c') (R : rr_C ns ni nh c m) : rr_C ns ni nh c' m := rr_C_c ⟨h.1 _ (by omega), h.1 _ (by omega), h.1 _ (by omega)⟩ (fun k _ => by rw [h.2]) R
theorem rr_fm_C {ns ni nh : Nat} {c m m' : hh_S} (h : rr_fm m m') (R : rr_C ns ni nh c m) : rr_C ns ni nh c m' := rr_C_m ⟨h.1 _ (by omega), h.1 _ (by omega), h.1 _ (by omega)⟩ (fun k _ => by rw [h.2]) R
theorem rr_f {c c' m m' : hh_S} (hc : rr_fc c c') (hm : rr_fm m m') (R : RR_s c m) : RR_s c' m' := by
  obtain ⟨sn, ns, ni, nh, R1, RC, R7, R8, R9⟩ := R
  have e : ∀ k, c'.2.2.1 k = c.2.2.1 k := fun k => by rw [hc.2]
  have f : ∀ k, m'.2.2.1 k = m.2.2.1 k := fun k => by rw [hm.2]
  exact ⟨sn, ns, ni, nh, rr_1_e (hc.1 _ (by omega)) (hm.1 _ (by omega)) (e _) (f _) R1, rr_fm_C hm (rr_fc_C hc RC), rr_7_e (e _) (e _) (f _) (f _) R7, rr_8_e (hc.1 _ (by omega)) (hm.1 _ (by omega)) (hm.1 _ (by omega)) (hm.1 _ (by omega)) (f _) (fun h _ => e _) RC.2.2.1.1 R8, rr_9_e RC.2.1.1 (hm.1 _ (by omega)) (hm.1 _ (by omega)) (f _) (f _) (f _) (f _) (f _) (e _) (fun i _ => e _) R9⟩
theorem rr_fc_t {a b c : hh_S} (h : rr_fc a b) (g : rr_fc b c) : rr_fc a c := ⟨fun k hk => (g.1 k hk).trans (h.1 k hk), g.2.trans h.2⟩
theorem rr_fm_t {a b c : hh_S} (h : rr_fm a b) (g : rr_fm b c) : rr_fm a c := ⟨fun k hk => (g.1 k hk).trans (h.1 k hk), g.2.trans h.2⟩
theorem mm_cnt_f {m m' : hh_S} (h : rr_fm m m') (a i : Nat) : mm_cnt m' a i = mm_cnt m a i := by unfold mm_cnt hh_a; rw [h.2]
theorem mm_tk_f {m m' : hh_S} (h : rr_fm m m') (a i : Nat) : mm_tk m' a i = mm_tk m a i := by unfold mm_tk mm_cnt hh_a; rw [h.2]
theorem mm_rt_f {m m' : hh_S} (h : rr_fm m m') (a i : Nat) : mm_rt m' a i = mm_rt m a i := by unfold mm_rt mm_tk mm_cnt hh_a; rw [h.2]
theorem s3_begin {c : hh_S} {Q : hh_S → Prop} (q : ∀ c', rr_fc c c' → rr_wc 0 (fun k => if k = 0 then 1 else 0) c' → Q c') : wp_X3_begin c Q := by
  unfold wp_X3_begin
  rintro c1 rfl c2 rfl
  refine q _ ⟨fun k hk => if_neg hk, rfl⟩ ⟨rfl, fun k hk => ?_⟩
  have : k = 0 := by omega
  subst this
  rw [show (0 : Int32) = nI 0 from rfl, pp_sB_b (by omega), if_pos ⟨rfl, rfl⟩]
  rfl
/-- one draw: the ways behind it -/
def mm_w1 (L : Nat) (w : Nat → Nat) (k : Nat) : Nat := w k * (L - 1) + (if k = 0 then 0 else w (k - 1))
theorem s3_draw {d L : Nat} {w : Nat → Nat} {c : hh_S} {Q : hh_S → Prop} (hd : d < 24) (hL : 1 ≤ L) (hL4 : L ≤ 4) (hw : rr_wc d w c) (h0 : w (d + 1) = 0) (q : ∀ c', rr_fc c c' → rr_wc (d + 1) (mm_w1 L w) c' → Q c') : wp_X3_draw (nI L) c Q := by
  obtain ⟨w1, w2⟩ := hw
  unfold wp_X3_draw
  show (c.1 576 < 24 → _) ∧ (¬ c.1 576 < 24 → _)
  rw [w1, show (24 : Int32) = nI 24 from rfl]
  refine pp_t ((pp_lt (by omega) (by omega)).mpr hd) ?_
  intro c1 e1
  have n1 : hh_I c1 576 = nI (d + 1) := by rw [e1]; show c.1 576 + 1 = _; rw [w1]; exact nI_1 d
  have b1 : ∀ k, hh_b c1 42 k = hh_b c 42 k := fun k => by rw [e1]; rfl
  rw [n1, show nI (d + 1) - 1 = nI d from nI_pred d, pp_rB (by omega), b1, w2 d (Nat.le_refl d)]
  refine ⟨pp_in (by omega) (by omega), pp_in (by omega) (by omega), ?_⟩
  intro c2 e2
  have n2 : hh_I c2 576 = nI (d + 1) := by rw [e2]; exact n1
  rw [n2, show nI (d + 1) - 1 = nI d from nI_pred d]
  have b2 : ∀ k, hh_b c2 42 k = if k = d + 1 then lN (w d) else hh_b c 42 k := fun k => by
    rw [e2, pp_sB_b (by omega), b1]
    by_cases z : k = d + 1
    · rw [if_pos ⟨rfl, z⟩, if_pos z]
    · rw [if_neg (fun y => z y.2), if_neg z]
  have f2 : rr_fc c c2 := by
    refine ⟨fun k hk => ?_, ?_⟩
    · rw [e2, e1]; exact if_neg hk
    · rw [e2, e1]; rfl
  have top : lN (w d) = lN (mm_w1 L w (d + 1)) := by unfold mm_w1; rw [h0, Nat.zero_mul, if_neg (by omega), Nat.zero_add]; rfl
  rintro v rfl
  refine hh_lp1_i (fun x σ => ∃ j, j ≤ d ∧ x = nI j ∧ rr_fc c σ ∧ σ.1 576 = nI (d + 1) ∧ (∀ k, k ≤ j → hh_b σ 42 k = lN (w k)) ∧ (∀ k, j < k → k ≤ d + 1 → hh_b σ 42 k = lN (mm_w1 L w k))) (fun x σ => x.toNatClampNeg) ?_ ⟨d, Nat.le_refl d, rfl, f2, n2, fun k hk => by rw [b2, if_neg (by omega)]; exact w2 k hk, fun k h1 h2 => by rw [b2, if_pos (by omega), show k = d + 1 by omega]; exact top⟩
  rintro K x σ ⟨j, hj, rfl, sf, s5, sl, sh⟩ hK
  unfold wq_X3_draw_47
  have hL1 : (nI L - 1).toInt64 = lN (L - 1) := by rw [show (1 : Int32) = nI 1 from rfl, pk_sub hL, nI_I (by omega)]
  rw [hL1, show (0 : Int32) = nI 0 from rfl, pp_rB (by omega), pp_rB (by omega)]
  refine pp_c _ (pp_le (by omega) (by omega)) (fun h => ?_) (fun h => ?_)
  · have h : j = 0 := by omega
    subst h
    rintro σ2 rfl
    refine q _ ⟨sf.1, sf.2⟩ ⟨s5, fun k hk => ?_⟩
    rw [pp_sB_b (by omega)]
    by_cases z : k = 0
    · subst z
      rw [if_pos ⟨rfl, rfl⟩, sl 0 (by omega), lN_mul]
      unfold mm_w1
      rw [if_pos rfl, Nat.add_zero]
    · rw [if_neg (fun y => z y.2)]
      exact sh k (by omega) hk
  · obtain ⟨i, rfl⟩ : ∃ i, j = i + 1 := ⟨j - 1, by omega⟩
    rw [show nI (i + 1) - 1 = nI i from nI_pred i, pp_rB (by omega), sl (i + 1) (by omega), sl i (by omega), lN_mul, lN_add, show nI (i + 1) + -1 = nI i from pk_m1 i]
    refine ⟨pp_in (by omega) (by omega), pp_in (by omega) (by omega), pp_in (by omega) (by omega), ?_⟩
    intro σ6 e6
    refine hK _ _ ⟨i, by omega, rfl, ⟨by rw [e6]; exact sf.1, by rw [e6]; exact sf.2⟩, by rw [e6]; exact s5, fun k hk => ?_, fun k h1 h2 => ?_⟩ (by rw [pp_cl (by omega), pp_cl (by omega)]; omega)
    · rw [e6, pp_sB_b (by omega), if_neg (fun y => by omega)]
      exact sl k (by omega)
    · rw [e6, pp_sB_b (by omega)]
      by_cases z : k = i + 1
      · rw [if_pos ⟨rfl, z⟩, z]
        unfold mm_w1
        rw [if_neg (by omega), Nat.add_sub_cancel]
      · rw [if_neg (fun y => z y.2)]
        exact sh k (by omega) h2
theorem s9_beginWays {m : hh_S} {Q : hh_S → Prop} (q : ∀ m', rr_fm m m' → rr_wm 0 (fun k => if k = 0 then 1 else 0) 1 m' → Q m') : wp_X9_beginWays m Q := by
  unfold wp_X9_beginWays
  refine hh_lp1_i (fun x σ => ∃ j, j ≤ 25 ∧ x = nI j ∧ rr_fm m σ ∧ ∀ k, k < j → hh_b σ 26 k = lN (if k = 0 then 1 else 0)) (fun x σ => 25 - x.toNatClampNeg) ?_ ⟨0, by omega, rfl, rr_fm_r m, fun k hk => absurd hk (Nat.not_lt_zero k)⟩
  rintro K x σ ⟨j, hj, rfl, sf, sl⟩ hK
  unfold wq_X9_beginWays_2
  rw [show (25 : Int32) = nI 25 from rfl]
  refine pp_c _ (pp_le (by omega) (by omega)) (fun h => ?_) (fun h => ?_)
  · have h : j = 25 := by omega
    subst h
    rintro σ2 rfl σ3 rfl
    exact q _ ⟨fun k hk => (if_neg hk).trans (sf.1 k hk), sf.2⟩ ⟨rfl, rfl, sl⟩
  · rw [show nI j + 1 = nI (j + 1) from nI_1 j]
    have mu : 25 - (nI (j + 1)).toNatClampNeg < 25 - (nI j).toNatClampNeg := by rw [pp_cl (by omega), pp_cl (by omega)]; omega
    have go : ∀ (v : Int64) (σ6 : hh_S), v = lN (if j = 0 then 1 else 0) → σ6 = hh_sB σ 26 (nI j) v → K (nI (j + 1)) σ6 := by
      intro v σ6 hv e6
      refine hK _ _ ⟨j + 1, by omega, rfl, ⟨by rw [e6]; exact sf.1, by rw [e6]; exact sf.2⟩, fun k hk => ?_⟩ mu
      rw [e6, pp_sB_b (by omega)]
      by_cases z : k = j
      · rw [if_pos ⟨rfl, z⟩, hv, z]
      · rw [if_neg (fun y => z y.2)]
        exact sl k (by omega)
    rw [show (0 : Int32) = nI 0 from rfl]
    refine pp_nc _ (pp_eq (by omega) (by omega)) (fun z => ⟨pp_in (by omega) (by omega), fun σ6 e6 => go _ σ6 (by rw [if_neg z]; rfl) e6⟩) (fun z => ⟨pp_in (by omega) (by omega), fun σ6 e6 => go _ σ6 (by rw [if_pos z]; rfl) e6⟩)
theorem s9_drawFrom {d L a : Nat} {w : Nat → Nat} {m : hh_S} {Q : hh_S → Prop} (hd : d < 24) (hL : 1 ≤ L) (hL4 : L ≤ 4) (hw : rr_wm d w a m) (h0 : ∀ k, d < k → w k = 0) (q : ∀ m', rr_fm m m' → rr_wm (d + 1) (mm_w1 L w) (a * L) m' → Q m') : wp_X9_drawFrom (nI L) m Q := by
  obtain ⟨w1, wa, w2⟩ := hw
  unfold wp_X9_drawFrom
  intro c1 e1
  have n1 : hh_I c1 35 = nI (d + 1) := by rw [e1]; show m.1 35 + 1 = _; rw [w1]; exact nI_1 d
  have b1 : ∀ k, hh_b c1 26 k = hh_b m 26 k := fun k => by rw [e1]; rfl
  have f1 : rr_fm m c1 := ⟨fun k hk => by rw [e1]; exact if_neg hk, by rw [e1]; rfl⟩
  have l1 : c1.2.1 34 = lN a := by rw [e1]; exact wa
  rw [n1]
  rintro v rfl
  have hL1 : (nI L - 1).toInt64 = lN (L - 1) := by rw [show (1 : Int32) = nI 1 from rfl, pk_sub hL, nI_I (by omega)]
  have big : ∀ k, d + 1 < k → mm_w1 L w k = 0 := fun k hk => by unfold mm_w1; rw [h0 k (by omega), if_neg (by omega), h0 (k - 1) (by omega), Nat.zero_mul]
  refine hh_lp1_i (fun x σ => ∃ j, j ≤ d + 2 ∧ x = nI j - 1 ∧ rr_fm m σ ∧ σ.1 35 = nI (d + 1) ∧ σ.2.1 34 = lN a ∧ (∀ k, k < j → hh_b σ 26 k = lN (w k)) ∧ (∀ k, j ≤ k → k < 25 → hh_b σ 26 k = lN (mm_w1 L w k))) (fun x σ => (x + 1).toNatClampNeg) ?_ ⟨d + 2, Nat.le_refl _, (nI_pred (d + 1)).symm, f1, n1, l1, fun k hk => by rw [b1]; exact w2 k (by omega), fun k h1 h2 => by rw [b1, w2 k h2, h0 k (by omega), big k (by omega)]⟩
  rintro K x σ ⟨j, hj, rfl, sf, s5, sa, sl, sh⟩ hK
  unfold wq_X9_drawFrom_15
  rcases Nat.eq_zero_or_pos j with hj0 | hj0
  · subst hj0
    refine pp_t (by decide) ?_
    rw [nI_I (by omega)]
    rintro σ2 rfl
    refine q _ ⟨sf.1, sf.2⟩ ⟨s5, ?_, fun k hk => sh k (by omega) hk⟩
    show σ.2.1 34 * lN L = _
    rw [sa, lN_mul]
  · obtain ⟨i, rfl⟩ : ∃ i, j = i + 1 := ⟨j - 1, by omega⟩
    rw [show nI (i + 1) - 1 = nI i from nI_pred i] at hK ⊢
    rw [hL1, pp_rB (by omega), sl i (by omega), show nI i + -1 = nI i - 1 from by rw [Int32.sub_eq_add_neg]]
    refine pp_f (pp_p0 (by omega)) ⟨pp_in (by omega) (by omega), ?_⟩
    have mu : (nI i - 1 + 1).toNatClampNeg < (nI i + 1).toNatClampNeg := by
      rw [Int32.sub_add_cancel, show nI i + 1 = nI (i + 1) from nI_1 i, pp_cl (by omega), pp_cl (by omega)]
      omega
    have go : ∀ (v : Int64) (σ6 : hh_S), v = lN (mm_w1 L w i) → σ6 = hh_sB σ 26 (nI i) v → K (nI i - 1) σ6 := by
      intro v σ6 hv e6
      refine hK _ _ ⟨i, by omega, rfl, ⟨by rw [e6]; exact sf.1, by rw [e6]; exact sf.2⟩, by rw [e6]; exact s5, by rw [e6]; exact sa, fun k hk => ?_, fun k h1 h2 => ?_⟩ mu
      · rw [e6, pp_sB_b (by omega), if_neg (fun y => by omega)]
        exact sl k (by omega)
      · rw [e6, pp_sB_b (by omega)]
        by_cases z : k = i
        · rw [if_pos ⟨rfl, z⟩, hv, z]
        · rw [if_neg (fun y => z y.2)]
          exact sh k (by omega) h2
    rw [show (0 : Int32) = nI 0 from rfl]
    refine pp_c _ (pp_le (by omega) (by omega)) (fun z => ⟨pp_in (by omega) (by omega), fun σ6 e6 => go _ σ6 ?_ e6⟩) (fun z => ?_)
    · have z : i = 0 := by omega
      subst z
      rw [show (0 : Int64) = lN 0 from rfl, lN_mul, lN_add]
      rfl
    · obtain ⟨i', rfl⟩ : ∃ i', i = i' + 1 := ⟨i - 1, by omega⟩
      rw [show nI (i' + 1) - 1 = nI i' from nI_pred i', pp_rB (by omega), sl i' (by omega), lN_mul, lN_add]
      rw [show nI (i' + 1) - 1 = nI i' from nI_pred i'] at go
      refine ⟨pp_in (by omega) (by omega), pp_in (by omega) (by omega), fun σ6 e6 => go _ σ6 ?_ e6⟩
      unfold mm_w1
      rw [if_neg (by omega), Nat.add_sub_cancel]
/-- so many hits at least -/
def mm_hl (w : Nat → Nat) (n k : Nat) : Nat := if k < n then 0 else w k
theorem s3_hitAtLeast {d n : Nat} {w : Nat → Nat} {c : hh_S} {Q : hh_S → Prop} (hd : d ≤ 24) (hn : n < 2147483648) (hw : rr_wc d w c) (hp : 0 < fb_sm w (d + 1)) (hb : fb_sm w (d + 1) < 9223372036854775808) (q : ∀ c', rr_fc c c' → c'.2.1 577 = lN (fb_sm (mm_hl w n) (d + 1) / Nat.gcd (fb_sm (mm_hl w n) (d + 1)) (fb_sm w (d + 1))) → c'.2.1 578 = lN (fb_sm w (d + 1) / Nat.gcd (fb_sm (mm_hl w n) (d + 1)) (fb_sm w (d + 1))) → Q c') : wp_X3_hitAtLeast (nI n) c Q := by
  obtain ⟨w1, w2⟩ := hw
  unfold wp_X3_hitAtLeast
  refine hh_lp3_i (fun x y z σ => ∃ j, j ≤ d + 1 ∧ z = nI j ∧ x = lN (fb_sm (mm_hl w n) j) ∧ y = lN (fb_sm w j) ∧ c = σ) (fun x y z σ => d + 1 - z.toNatClampNeg) ?_ ⟨0, by omega, rfl, rfl, rfl, rfl⟩
  rintro K x y z σ ⟨j, hj, rfl, rfl, rfl, rfl⟩ hK
  unfold wq_X3_hitAtLeast_8
  show (c.1 576 < nI j → _) ∧ (¬ c.1 576 < nI j → _)
  rw [w1]
  refine pp_c _ (pp_lt (by omega) (by omega)) (fun h => ?_) (fun h => ?_)
  · have h : j = d + 1 := by omega
    subst h
    have hle : fb_sm (mm_hl w n) (d + 1) ≤ fb_sm w (d + 1) := fb_sm_le (fun k _ => by unfold mm_hl; split <;> omega)
    exact s3_reduce (by omega) hb hp (q _ ⟨fun _ _ => rfl, rfl⟩ rfl rfl)
  · rw [pp_rB (by omega), w2 j (by omega), lN_add, show nI j + 1 = nI (j + 1) from nI_1 j]
    refine ⟨pp_in (by omega) (by omega), ?_⟩
    rintro v rfl
    have mu : d + 1 - (nI (j + 1)).toNatClampNeg < d + 1 - (nI j).toNatClampNeg := by rw [pp_cl (by omega), pp_cl (by omega)]; omega
    refine pp_c _ (pp_lt (by omega) (by omega)) (fun h1 => ?_) (fun h1 => ⟨pp_in (by omega) (by omega), ?_⟩)
    · rw [show (0 : Int64) = lN 0 from rfl, lN_add]
      rintro v rfl
      exact hK _ _ _ _ ⟨j + 1, by omega, rfl, by rw [fb_sm_succ, show mm_hl w n j = 0 from if_pos h1], rfl, rfl⟩ mu
    · rw [lN_add]
      rintro v rfl
      exact hK _ _ _ _ ⟨j + 1, by omega, rfl, by rw [fb_sm_succ, show mm_hl w n j = w j from if_neg h1], rfl, rfl⟩ mu
theorem s9_oddsFrom {d n : Nat} {x : Int32} {w : Nat → Nat} {m : hh_S} {Q : Int64 → hh_S → Prop} (hd : d ≤ 24) (hn : n ≤ d + 1) (hw : rr_wm d w (fb_sm w (d + 1)) m) (hp : 0 < fb_sm w (d + 1)) (hb : fb_sm w (d + 1) < 9223372036854775808) (q : (x = 0 → Q (lN (fb_sm (mm_hl w n) (d + 1) / Nat.gcd (fb_sm (mm_hl w n) (d + 1)) (fb_sm w (d + 1)))) m) ∧ (¬ x = 0 → Q (lN (fb_sm w (d + 1) / Nat.gcd (fb_sm (mm_hl w n) (d + 1)) (fb_sm w (d + 1)))) m)) : wp_X9_oddsFrom (nI n) x m Q := by
  obtain ⟨w1, wa, w2⟩ := hw
  unfold wp_X9_oddsFrom
  refine hh_lp2_i (fun y z σ => ∃ j, n ≤ j ∧ j ≤ d + 1 ∧ z = nI j ∧ y = lN (fb_sm (mm_hl w n) j) ∧ m = σ) (fun y z σ => d + 1 - z.toNatClampNeg) ?_ ⟨n, Nat.le_refl n, hn, rfl, by rw [fb_sm_0 (f := mm_hl w n) (fun k hk => if_pos hk)]; rfl, rfl⟩
  rintro K y z σ ⟨j, hj1, hj, rfl, rfl, rfl⟩ hK
  unfold wq_X9_oddsFrom_5
  show (m.1 35 < nI j → _) ∧ (¬ m.1 35 < nI j → _)
  rw [w1]
  refine pp_c _ (pp_lt (by omega) (by omega)) (fun h => ?_) (fun h => ?_)
  · have h : j = d + 1 := by omega
    subst h
    have hle : fb_sm (mm_hl w n) (d + 1) ≤ fb_sm w (d + 1) := fb_sm_le (fun k _ => by unfold mm_hl; split <;> omega)
    show wp_X9_term _ (m.2.1 34) _ _ _
    rw [wa]
    exact s9_term (by omega) hb hp q
  · rw [pp_rB (by omega), w2 j (by omega), lN_add, show nI j + 1 = nI (j + 1) from nI_1 j]
    refine ⟨pp_in (by omega) (by omega), ?_⟩
    rintro v rfl
    refine hK _ _ _ ⟨j + 1, by omega, by omega, rfl, ?_, rfl⟩ (by rw [pp_cl (by omega), pp_cl (by omega)]; omega)
    rw [fb_sm_succ, show mm_hl w n j = w j from if_neg (by omega)]
theorem s3_part {x : Int32} {c : hh_S} {Q : Int64 → hh_S → Prop} (q : (x = 0 → Q (c.2.1 577) c) ∧ (¬ x = 0 → Q (c.2.1 578) c)) : wp_X3_part x c Q := by
  unfold wp_X3_part
  exact ⟨q.2, q.1⟩
