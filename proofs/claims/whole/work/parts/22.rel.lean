/-! ===== what the model's state says ===== -/
def mm_fix (m : hh_S) (i : Nat) : Int32 := if hh_a m 8 i < 0 then hh_a m 9 i else hh_a m 8 i
def mm_cnt (m : hh_S) (h i : Nat) : Bool := decide (hh_a m 11 h = 0) && decide (¬ hh_a m 13 (24 * h + i) ≤ 0)
def mm_lb (m : hh_S) (i : Nat) : Int32 := hh_a m 3 (hh_a m 6 i).toNatClampNeg
def mm_sh (m : hh_S) (i l : Nat) : Int32 := if mm_fix m i < 0 then (if m.1 20 = 0 then 1000000 / mm_lb m i else if m.1 21 ≤ nI i then 1000000 / mm_lb m i else hh_a m 17 (4 * i + l)) else if mm_fix m i = nI l then 1000000 else 0
def mm_at (m : hh_S) (s : Nat) (t : Int32) (i : Nat) : Bool := decide (hh_a m 6 i = nI s) && decide (hh_a m 7 i = t)
/-! ===== the class's state beside the model's ===== -/
def rr_1 (sn : Nat) (c m : hh_S) : Prop := sn ≤ 60 ∧ c.1 64 = nI sn ∧ m.1 0 = nI sn ∧ ∀ k, k < sn → hh_a c 19 k = hh_a m 1 k
def rr_2 (ns : Nat) (c m : hh_S) : Prop := ns ≤ 8 ∧ c.1 128 = nI ns ∧ m.1 2 = nI ns ∧ ∀ k, k < ns → hh_a c 11 k = hh_a m 2 k ∧ hh_a c 12 k = hh_a m 3 k ∧ hh_a c 13 k = hh_a m 4 k ∧ hh_a c 14 k = hh_a m 5 k ∧ ∃ L, 2 ≤ L ∧ L ≤ 4 ∧ hh_a m 3 k = nI L
def rr_3 (ns ni : Nat) (c m : hh_S) : Prop := ni ≤ 24 ∧ c.1 256 = nI ni ∧ m.1 7 = nI ni ∧ ∀ i, i < ni → ∃ st L, st < ns ∧ 2 ≤ L ∧ L ≤ 4 ∧ hh_a m 6 i = nI st ∧ hh_a c 20 i = nI st ∧ hh_a m 3 st = nI L ∧ hh_a c 22 i = nI L ∧ hh_a c 21 i = hh_a m 7 i ∧ hh_a c 23 i = hh_a m 8 i ∧ hh_a c 24 i = hh_a m 9 i ∧ hh_a c 25 i = hh_a m 10 i ∧ (hh_a m 8 i = -6 ∨ ∃ k, k < L ∧ hh_a m 8 i = nI k) ∧ (hh_a m 9 i = -6 ∨ ∃ k, k < L ∧ hh_a m 9 i = nI k)
def rr_4 (nh : Nat) (c m : hh_S) : Prop := nh ≤ 10 ∧ c.1 320 = nI nh ∧ m.1 13 = nI nh ∧ ∀ h, h < nh → hh_a c 26 h = hh_a m 11 h ∧ (hh_a m 11 h = 0 ∨ hh_a m 11 h = 1) ∧ hh_a c 27 h = hh_a m 12 h ∧ (hh_a m 12 h = 0 ∨ hh_a m 12 h = 1)
def rr_5 (ni nh : Nat) (c m : hh_S) : Prop := ∀ h, h < nh → (∀ i, i < ni → (hh_a m 13 (24 * h + i) = 0 ∧ hh_a c (45 + h) i = -6) ∨ ∃ k L, hh_a c 22 i = nI L ∧ k < L ∧ L ≤ 4 ∧ hh_a m 13 (24 * h + i) = nI (k + 1) ∧ hh_a c (45 + h) i = nI k) ∧ ∀ i, ni ≤ i → i < 24 → hh_a c (45 + h) i = -6
def rr_lo (k : Nat) : Nat := [1, 0, 1, 0, 0, 0].getD k 0
def rr_hi (k : Nat) : Nat := [100, 100000, 60, 100, 100, 100].getD k 0
def rr_6 (c m : hh_S) : Prop := ∀ k, k < 6 → hh_a c 29 k = hh_a m 14 k ∧ ∃ v, rr_lo k ≤ v ∧ v ≤ rr_hi k ∧ hh_a m 14 k = nI v
def rr_7 (c m : hh_S) : Prop := ∀ k, k < 21 → hh_a c 43 k = hh_a m 15 k ∧ hh_a c 44 k = hh_a m 16 k
def rr_8 (ni nh : Nat) (c m : hh_S) : Prop := (m.1 20 = 0 ∧ c.1 9 = -1) ∨ (m.1 20 = 1 ∧ ∃ ji jh, ji ≤ ni ∧ jh ≤ nh ∧ m.1 21 = nI ji ∧ m.1 22 = nI jh ∧ c.1 9 = nI jh ∧ ∀ h, h < jh → ∀ L t s, 2 ≤ L → L ≤ 4 → t < L → s < L → hh_a c (79 + h) (16 * (L - 2) + 4 * t + s) = hh_a m 18 (48 * h + 16 * (L - 2) + 4 * t + s))
def rr_9 (ni : Nat) (c m : hh_S) : Prop := ∀ i, i < ni → ∀ l L, L ≤ 4 → hh_a c 22 i = nI L → l < L → hh_a c (55 + i) l = mm_sh m i l
def rr_C (ns ni nh : Nat) (c m : hh_S) : Prop := rr_2 ns c m ∧ rr_3 ns ni c m ∧ rr_4 nh c m ∧ rr_5 ni nh c m ∧ rr_6 c m
def RR_n (sn ns ni nh : Nat) (c m : hh_S) : Prop := rr_1 sn c m ∧ rr_C ns ni nh c m ∧ rr_7 c m ∧ rr_8 ni nh c m ∧ rr_9 ni c m
def RR_s (c m : hh_S) : Prop := ∃ sn ns ni nh, RR_n sn ns ni nh c m
/-- one call, on both: the class first, then the model; the answers are one, and the states go on together -/
def RR_i (wc wm : hh_S → (Int32 → hh_S → Prop) → Prop) : Prop := ∀ c m, RR_s c m → wc c (fun r c' => wm m (fun r' m' => r = r' ∧ RR_s c' m'))
def RR_l (wc wm : hh_S → (Int64 → hh_S → Prop) → Prop) : Prop := ∀ c m, RR_s c m → wc c (fun r c' => wm m (fun r' m' => r = r' ∧ RR_s c' m'))
theorem pp_ct_f {p : Nat → Bool} {j : Nat} (h : p j = false) : nI (fb_ct p j) + 0 = nI (fb_ct p (j + 1)) := by rw [fb_ct_succ, h]; exact nI_add _ 0
theorem pp_ct_t {p : Nat → Bool} {j : Nat} (h : p j = true) : nI (fb_ct p j) + 1 = nI (fb_ct p (j + 1)) := by rw [fb_ct_succ, h]; exact nI_1 _
/-- the core doesn't hang on what a JOINING writes -/
def rr_kc (k : Nat) : Prop := (11 ≤ k ∧ k ≤ 14) ∨ (20 ≤ k ∧ k ≤ 29) ∨ (45 ≤ k ∧ k < 55)
def rr_km (k : Nat) : Prop := 2 ≤ k ∧ k ≤ 14
theorem rr_C_c {ns ni nh : Nat} {c c' m : hh_S} (h1 : c'.1 128 = c.1 128 ∧ c'.1 256 = c.1 256 ∧ c'.1 320 = c.1 320) (hA : ∀ k, rr_kc k → c'.2.2.1 k = c.2.2.1 k) (R : rr_C ns ni nh c m) : rr_C ns ni nh c' m := by
  obtain ⟨R2, R3, R4, R5, R6⟩ := R
  obtain ⟨a1, a2, a3⟩ := h1
  have e : ∀ k i, rr_kc k → hh_a c' k i = hh_a c k i := fun k i hk => congrFun (hA k hk) i
  refine ⟨?_, ?_, ?_, ?_, ?_⟩
  · refine ⟨R2.1, by rw [a1]; exact R2.2.1, R2.2.2.1, fun k hk => ?_⟩
    rw [e 11 _ (by unfold rr_kc; omega), e 12 _ (by unfold rr_kc; omega), e 13 _ (by unfold rr_kc; omega), e 14 _ (by unfold rr_kc; omega)]
    exact R2.2.2.2 k hk
  · refine ⟨R3.1, by rw [a2]; exact R3.2.1, R3.2.2.1, fun i hi => ?_⟩
    rw [e 20 _ (by unfold rr_kc; omega), e 21 _ (by unfold rr_kc; omega), e 22 _ (by unfold rr_kc; omega), e 23 _ (by unfold rr_kc; omega), e 24 _ (by unfold rr_kc; omega), e 25 _ (by unfold rr_kc; omega)]
    exact R3.2.2.2 i hi
  · refine ⟨R4.1, by rw [a3]; exact R4.2.1, R4.2.2.1, fun i hi => ?_⟩
    rw [e 26 _ (by unfold rr_kc; omega), e 27 _ (by unfold rr_kc; omega)]
    exact R4.2.2.2 i hi
  · intro h hh
    have h10 := R4.1
    refine ⟨fun i hi => ?_, fun i hi hj => ?_⟩
    · rw [e (45 + h) _ (by unfold rr_kc; omega), e 22 _ (by unfold rr_kc; omega)]
      exact (R5 h hh).1 i hi
    · rw [e (45 + h) _ (by unfold rr_kc; omega)]
      exact (R5 h hh).2 i hi hj
  · intro k hk
    rw [e 29 _ (by unfold rr_kc; omega)]
    exact R6 k hk
theorem rr_C_m {ns ni nh : Nat} {c m m' : hh_S} (h1 : m'.1 2 = m.1 2 ∧ m'.1 7 = m.1 7 ∧ m'.1 13 = m.1 13) (hA : ∀ k, rr_km k → m'.2.2.1 k = m.2.2.1 k) (R : rr_C ns ni nh c m) : rr_C ns ni nh c m' := by
  obtain ⟨R2, R3, R4, R5, R6⟩ := R
  obtain ⟨a1, a2, a3⟩ := h1
  have e : ∀ k i, rr_km k → hh_a m' k i = hh_a m k i := fun k i hk => congrFun (hA k hk) i
  refine ⟨?_, ?_, ?_, ?_, ?_⟩
  · refine ⟨R2.1, R2.2.1, by rw [a1]; exact R2.2.2.1, fun k hk => ?_⟩
    rw [e 2 _ (by unfold rr_km; omega), e 3 _ (by unfold rr_km; omega), e 4 _ (by unfold rr_km; omega), e 5 _ (by unfold rr_km; omega)]
    exact R2.2.2.2 k hk
  · refine ⟨R3.1, R3.2.1, by rw [a2]; exact R3.2.2.1, fun i hi => ?_⟩
    obtain ⟨st, L, q⟩ := R3.2.2.2 i hi
    refine ⟨st, L, ?_⟩
    rw [e 6 _ (by unfold rr_km; omega), e 3 _ (by unfold rr_km; omega), e 7 _ (by unfold rr_km; omega), e 8 _ (by unfold rr_km; omega), e 9 _ (by unfold rr_km; omega), e 10 _ (by unfold rr_km; omega)]
    exact q
  · refine ⟨R4.1, R4.2.1, by rw [a3]; exact R4.2.2.1, fun i hi => ?_⟩
    rw [e 11 _ (by unfold rr_km; omega), e 12 _ (by unfold rr_km; omega)]
    exact R4.2.2.2 i hi
  · intro h hh
    refine ⟨fun i hi => ?_, (R5 h hh).2⟩
    rw [e 13 _ (by unfold rr_km; omega)]
    exact (R5 h hh).1 i hi
  · intro k hk
    rw [e 14 _ (by unfold rr_km; omega)]
    exact R6 k hk
/-! ===== small methods of the model ===== -/
theorem s9_in {x lo hi : Int32} {m : hh_S} {Q : Int32 → hh_S → Prop} (h : Q (pp_i (decide (¬ x < lo ∧ ¬ hi < x))) m) : wp_X9_in x lo hi m Q := by
  unfold wp_X9_in
  by_cases h1 : x < lo
  · rw [show decide (¬ x < lo ∧ ¬ hi < x) = false from decide_eq_false (fun q => q.1 h1)] at h
    exact pp_t h1 h
  · by_cases h2 : hi < x
    · rw [show decide (¬ x < lo ∧ ¬ hi < x) = false from decide_eq_false (fun q => q.2 h2)] at h
      exact pp_f h1 (pp_t h2 h)
    · rw [show decide (¬ x < lo ∧ ¬ hi < x) = true from decide_eq_true ⟨h1, h2⟩] at h
      exact pp_f h1 (pp_f h2 h)
theorem s9_inT {x lo hi : Int32} {m : hh_S} {Q : Int32 → hh_S → Prop} (h1 : ¬ x < lo) (h2 : ¬ hi < x) (h : Q 1 m) : wp_X9_in x lo hi m Q := s9_in (by rw [show decide (¬ x < lo ∧ ¬ hi < x) = true from decide_eq_true ⟨h1, h2⟩]; exact h)
theorem s9_inF {x lo hi : Int32} {m : hh_S} {Q : Int32 → hh_S → Prop} (h1 : ¬ (¬ x < lo ∧ ¬ hi < x)) (h : Q 0 m) : wp_X9_in x lo hi m Q := s9_in (by rw [show decide (¬ x < lo ∧ ¬ hi < x) = false from decide_eq_false h1]; exact h)
theorem pp_ixd {x v : Int32} {k : Nat} (hv : v = nI k) (hk : k < 2147483647) : decide (¬ x < 0 ∧ ¬ v - 1 < x) = pp_ix x k := by
  subst hv
  have e : (nI k - 1).toInt = (k : Int) - 1 := by
    have h0 : (nI k).toInt = (k : Int) := nI_toInt (by omega)
    have h1 : (1 : Int32).toInt = 1 := by decide
    rw [fb_subI (by rw [h0, h1]; omega) (by rw [h0, h1]; omega), h0, h1]
  unfold pp_ix
  have z0 : (0 : Int32).toInt = 0 := by decide
  have a1 : x < 0 ↔ x.toInt < 0 := by rw [fa_lt, z0]
  have a2 : nI k - 1 < x ↔ (k : Int) - 1 < x.toInt := by rw [fa_lt, e]
  refine decide_eq_decide.mpr ?_
  rw [a1, a2]
  exact ⟨fun q => ⟨by omega, by omega⟩, fun q => ⟨by omega, by omega⟩⟩
theorem s9_in0 {x v : Int32} {k : Nat} {m : hh_S} {Q : Int32 → hh_S → Prop} (hv : v = nI k) (hk : k < 2147483647) (h : Q (pp_i (pp_ix x k)) m) : wp_X9_in x 0 (v - 1) m Q := s9_in (by rw [pp_ixd hv hk]; exact h)
theorem s9_isItem {x : Int32} {ni : Nat} {m : hh_S} {Q : Int32 → hh_S → Prop} (hn : m.1 7 = nI ni) (hk : ni ≤ 24) (h : Q (pp_i (pp_ix x ni)) m) : wp_X9_isItem x m Q := by
  unfold wp_X9_isItem
  exact s9_in0 hn (by omega) ⟨pp_nar _, h⟩
theorem s9_isHand {x : Int32} {nh : Nat} {m : hh_S} {Q : Int32 → hh_S → Prop} (hn : m.1 13 = nI nh) (hk : nh ≤ 10) (h : Q (pp_i (pp_ix x nh)) m) : wp_X9_isHand x m Q := by
  unfold wp_X9_isHand
  exact s9_in0 hn (by omega) ⟨pp_nar _, h⟩
theorem s9_labelsOf {i st : Nat} {m : hh_S} {Q : Int32 → hh_S → Prop} (hi : i < 24) (hs : hh_a m 6 i = nI st) (hst : st < 8) (h : Q (hh_a m 3 st) m) : wp_X9_labelsOf (nI i) m Q := by
  unfold wp_X9_labelsOf
  rw [pp_rA (by omega), hs, pp_rA (by omega)]
  exact ⟨pp_in hi (by omega), pp_in hst (by omega), h⟩
theorem s9_isLabel {i st L : Nat} {x : Int32} {ni : Nat} {m : hh_S} {Q : Int32 → hh_S → Prop} (hn : m.1 7 = nI ni) (hk : ni ≤ 24) (hi : i < ni) (hs : hh_a m 6 i = nI st) (hst : st < 8) (hL : hh_a m 3 st = nI L) (hL4 : L ≤ 4) (h : Q (pp_i (pp_ix x L)) m) : wp_X9_isLabel (nI i) x m Q := by
  unfold wp_X9_isLabel
  refine s9_isItem hn hk ?_
  rw [pp_ix_nI hi (by omega)]
  refine pp_f (by decide) ?_
  refine s9_labelsOf (by omega) hs hst ?_
  rw [hL]
  refine s9_in0 rfl (by omega) ?_
  refine pp_bz (fun e => ?_) (fun e => ?_)
  · rw [e] at h; exact h
  · rw [e] at h; exact h
theorem s9_isLabelF {x y : Int32} {ni : Nat} {m : hh_S} {Q : Int32 → hh_S → Prop} (hn : m.1 7 = nI ni) (hk : ni ≤ 24) (hi : pp_ix y ni = false) (h : Q 0 m) : wp_X9_isLabel y x m Q := by
  unfold wp_X9_isLabel
  refine s9_isItem hn hk ?_
  rw [hi]
  exact pp_t rfl h
theorem s9_fixed {i : Nat} {m : hh_S} {Q : Int32 → hh_S → Prop} (hi : i < 24) (h : Q (mm_fix m i) m) : wp_X9_fixed (nI i) m Q := by
  unfold wp_X9_fixed
  rw [pp_rA (by omega), pp_rA (by omega)]
  refine ⟨pp_in hi (by omega), ?_⟩
  unfold mm_fix at h
  by_cases e : hh_a m 8 i < 0
  · rw [if_pos e] at h
    exact pp_t e ⟨pp_in hi (by omega), h⟩
  · rw [if_neg e] at h
    exact pp_f e ⟨pp_in hi (by omega), h⟩
theorem s9_counts {h i : Nat} {m : hh_S} {Q : Int32 → hh_S → Prop} (hh : h < 10) (hi : i < 24) (q : Q (pp_i (mm_cnt m h i)) m) : wp_X9_counts (nI h) (nI i) m Q := by
  unfold wp_X9_counts
  rw [show (24 : Int32) = nI 24 from rfl, pp_idx, pp_rA (by omega), pp_rA (by omega)]
  refine ⟨pp_in hh (by omega), ?_⟩
  unfold mm_cnt at q
  by_cases e : hh_a m 11 h = 0
  · refine pp_nt e ⟨pp_in (by omega) (by omega), ?_⟩
    by_cases e2 : hh_a m 13 (24 * h + i) ≤ 0
    · rw [show decide (¬ hh_a m 13 (24 * h + i) ≤ 0) = false from decide_eq_false (fun z => z e2), Bool.and_false] at q
      exact pp_t e2 q
    · rw [show decide (¬ hh_a m 13 (24 * h + i) ≤ 0) = true from decide_eq_true e2, decide_eq_true e] at q
      exact pp_f e2 q
  · rw [decide_eq_false e, Bool.false_and] at q
    exact pp_nf e q
theorem s9_countOf {i nh : Nat} {m : hh_S} {Q : Int32 → hh_S → Prop} (hn : m.1 13 = nI nh) (hk : nh ≤ 10) (hi : i < 24) (q : Q (nI (fb_ct (fun h => mm_cnt m h i) nh)) m) : wp_X9_countOf (nI i) m Q := by
  unfold wp_X9_countOf
  refine hh_lp2_i (fun a b σ => ∃ j, j ≤ nh ∧ b = nI j ∧ a = nI (fb_ct (fun h => mm_cnt m h i) j) ∧ m = σ) (fun a b σ => nh - b.toNatClampNeg) ?_ ⟨0, Nat.zero_le _, rfl, rfl, rfl⟩
  rintro K a b σ ⟨j, hj, rfl, rfl, rfl⟩ hK
  unfold wq_X9_countOf_4
  show (m.1 13 ≤ nI j → _) ∧ (¬ m.1 13 ≤ nI j → _)
  rw [hn]
  refine pp_c _ (pp_le (by omega) (by omega)) (fun e => ?_) (fun e => ?_)
  · have e : j = nh := by omega
    subst e
    exact q
  · refine s9_counts (by omega) hi ?_
    have s1 : nI j + 1 = nI (j + 1) := nI_1 j
    rw [s1]
    have mu : nh - (nI (j + 1)).toNatClampNeg < nh - (nI j).toNatClampNeg := by rw [pp_cl (by omega), pp_cl (by omega)]; omega
    refine pp_bz (fun e2 => ?_) (fun e2 => ?_)
    · rintro v rfl
      exact hK _ _ _ ⟨j + 1, by omega, rfl, pp_ct_f e2, rfl⟩ mu
    · rintro v rfl
      exact hK _ _ _ ⟨j + 1, by omega, rfl, pp_ct_t e2, rfl⟩ mu
