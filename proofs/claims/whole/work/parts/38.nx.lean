/-! ===== next ===== -/
def rr_fn (c c' : hh_S) : Prop := (∀ k, k ≠ 10 → k ≠ 11 → k ≠ 12 → c'.1 k = c.1 k) ∧ c'.2.2.1 = c.2.2.1
theorem rr_fn_C {ns ni nh : Nat} {c c' m : hh_S} (h : rr_fn c c') (R : rr_C ns ni nh c m) : rr_C ns ni nh c' m := rr_C_c ⟨h.1 _ (by omega) (by omega) (by omega), h.1 _ (by omega) (by omega) (by omega), h.1 _ (by omega) (by omega) (by omega)⟩ (fun k _ => by rw [h.2]) R
theorem rr_fn_9 {ni : Nat} {c c' m : hh_S} (h : rr_fn c c') (R : rr_9 ni c m) : rr_9 ni c' m := by
  unfold rr_9 hh_a
  rw [h.2]
  exact R
theorem rr_fn_s {c c' m : hh_S} (h : rr_fn c c') (R : RR_s c m) : RR_s c' m := by
  obtain ⟨sn, ns, ni, nh, R1, RC, R7, R8, R9⟩ := R
  have e : ∀ k, c'.2.2.1 k = c.2.2.1 k := fun k => by rw [h.2]
  exact ⟨sn, ns, ni, nh, rr_1_e (h.1 _ (by omega) (by omega) (by omega)) rfl (e _) rfl R1, rr_fn_C h RC, rr_7_e (e _) (e _) rfl rfl R7, rr_8_e (h.1 _ (by omega) (by omega) (by omega)) rfl rfl rfl rfl (fun _ _ => e _) RC.2.2.1.1 R8, rr_fn_9 h R9⟩
def mm_tb (m : hh_S) (h L t s : Nat) : Int32 := hh_a m 18 (48 * h + 16 * (L - 2) + 4 * t + s)
def mm_mx (a b : Int64) : Int64 := if b < a then a else b
def mm_hm (m : hh_S) (h i s : Nat) : Nat → Int64
  | 0 => 0
  | t + 1 => mm_mx (mm_hm m h i s t) ((mm_sh m i t).toInt64 * (mm_tb m h (mm_L m i) t s).toInt64)
def mm_hs (m : hh_S) (h i : Nat) : Nat → Int64
  | 0 => 0
  | s + 1 => mm_hs m h i s + mm_hm m h i s (mm_L m i)
def mm_help (m : hh_S) (h i : Nat) : Int32 := (mm_hs m h i (mm_L m i) / 1000).toInt32 - mm_sh m i (mm_end m i)
def rr_tb (nh : Nat) (c m : hh_S) : Prop := ∀ h, h < nh → ∀ L t s, 2 ≤ L → L ≤ 4 → t < L → s < L → hh_a c (79 + h) (16 * (L - 2) + 4 * t + s) = mm_tb m h L t s
theorem rr_fn_tb {nh : Nat} {c c' m : hh_S} (h : rr_fn c c') (R : rr_tb nh c m) : rr_tb nh c' m := by
  unfold rr_tb hh_a
  rw [h.2]
  exact R
theorem mm_end_lt {ns ni nh i : Nat} {c m : hh_S} (R : rr_C ns ni nh c m) (hi : i < ni) : mm_end m i < mm_L m i := by
  obtain ⟨L, L2, L4, hL, -⟩ := rr_lb R hi
  exact pp_bst_lt _ (by omega)
theorem s2_helpOf {ns ni nh h i : Nat} {c m : hh_S} {Q : Int32 → hh_S → Prop} (R : rr_C ns ni nh c m) (R9 : rr_9 ni c m) (T : rr_tb nh c m) (hh : h < nh) (hi : i < ni) (q : Q (mm_help m h i) c) : wp_X2_helpOf 0 (nI i) (nI h) c Q := by
  obtain ⟨L, L2, L4, hL, lb, l22, -⟩ := rr_lb R hi
  have h24 := R.2.1.1
  have h10 := R.2.2.1.1
  have he := mm_end_lt R hi
  unfold mm_help at q
  rw [hL] at he q
  unfold wp_X2_helpOf
  refine ⟨pp_in (by omega) (by omega), ?_⟩
  rw [pp_rA (by omega), l22]
  rintro v rfl
  refine hh_lp2_i (fun x y σ => ∃ s, s ≤ L ∧ y = nI s ∧ x = mm_hs m h i s ∧ c = σ) (fun x y σ => L - y.toNatClampNeg) ?_ ⟨0, by omega, rfl, rfl, rfl⟩
  rintro K x y σ ⟨s, hs, rfl, rfl, rfl⟩ hK
  unfold wq_X2_helpOf_16
  refine pp_c _ (pp_le (by omega) (by omega)) (fun e => ?_) (fun e => ?_)
  · have e : s = L := by omega
    subst e
    refine ⟨pp_in (by omega) (by omega), s8_greatest R R9 hi ⟨pp_in (by omega) (by omega), ?_⟩⟩
    rw [pp_rA (by omega), pp_cl (by omega), show 55 + 34 * 0 + i = 55 + i by omega, R9 i hi (mm_end m i) s L4 l22 he]
    exact q
  · refine hh_lp2_i (fun x y σ => ∃ t, t ≤ L ∧ y = nI t ∧ x = mm_hm m h i s t ∧ c = σ) (fun x y σ => L - y.toNatClampNeg) ?_ ⟨0, by omega, rfl, rfl, rfl⟩
    rintro K2 x y σ ⟨t, ht, rfl, rfl, rfl⟩ hK2
    unfold wq_X2_helpOf_28
    refine pp_c _ (pp_le (by omega) (by omega)) (fun e2 => ?_) (fun e2 => ?_)
    · have e2 : t = L := by omega
      subst e2
      rw [show nI s + 1 = nI (s + 1) from nI_1 s]
      exact hK _ _ _ ⟨s + 1, by omega, rfl, by rw [mm_hs, hL], rfl⟩ (by rw [pp_cl (by omega), pp_cl (by omega)]; omega)
    · refine ⟨pp_in (by omega) (by omega), pp_in (by omega) (by omega), pp_in (by omega) (by omega), ?_⟩
      unfold wp_X2_spot
      rw [show (2 : Int32) = nI 2 from rfl, show (16 : Int32) = nI 16 from rfl, show (4 : Int32) = nI 4 from rfl, pp_spot L2]
      refine ⟨pp_in (by omega) (by omega), ?_⟩
      rw [pp_rA (by omega), pp_rA (by omega), pp_cl (by omega), pp_cl (by omega), show 55 + 34 * 0 + i = 55 + i by omega, show 79 + 34 * 0 + h = 79 + h by omega, R9 i hi t L L4 l22 (by omega), T h hh L t s L2 L4 (by omega) (by omega), show nI t + 1 = nI (t + 1) from nI_1 t]
      rintro v rfl
      exact hK2 _ _ _ ⟨t + 1, by omega, rfl, by rw [mm_hm, hL]; rfl, rfl⟩ (by rw [pp_cl (by omega), pp_cl (by omega)]; omega)
theorem mm_mx_le {a b : Int64} (h : b ≤ a) : mm_mx a b = a := by
  unfold mm_mx
  by_cases e : b < a
  · rw [if_pos e]
  · rw [if_neg e]
    exact Int64.le_antisymm h (Int64.not_lt.mp e)
theorem mm_mx_gt {a b : Int64} (h : ¬ b ≤ a) : mm_mx a b = b := if_neg (fun e => h (Int64.le_of_lt e))
theorem s9_helpOf {ns ni nh h i : Nat} {c m : hh_S} {Q : Int32 → hh_S → Prop} (R : rr_C ns ni nh c m) (hh : h < nh) (hi : i < ni) (q : Q (mm_help m h i) m) : wp_X9_helpOf (nI h) (nI i) m Q := by
  obtain ⟨L, L2, L4, hL, lb, l22, st, hst, e6, e3, -⟩ := rr_lb R hi
  have h24 := R.2.1.1
  have h10 := R.2.2.1.1
  have h8 := R.1.1
  have he := mm_end_lt R hi
  unfold mm_help at q
  rw [hL] at he q
  unfold wp_X9_helpOf
  refine s9_labelsOf (by omega) e6 (by omega) ?_
  rw [e3]
  refine hh_lp2_i (fun x y σ => ∃ s, s ≤ L ∧ y = nI s ∧ x = mm_hs m h i s ∧ m = σ) (fun x y σ => L - y.toNatClampNeg) ?_ ⟨0, by omega, rfl, rfl, rfl⟩
  rintro K x y σ ⟨s, hs, rfl, rfl, rfl⟩ hK
  unfold wq_X9_helpOf_12
  refine pp_c _ (pp_le (by omega) (by omega)) (fun e => ?_) (fun e => ?_)
  · have e : s = L := by omega
    subst e
    exact s9_endOf R hi (s9_shareOf R hi (by omega) q)
  · refine hh_lp2_i (fun x y σ => ∃ t, t ≤ L ∧ y = nI t ∧ x = mm_hm m h i s t ∧ m = σ) (fun x y σ => L - y.toNatClampNeg) ?_ ⟨0, by omega, rfl, rfl, rfl⟩
    rintro K2 x y σ ⟨t, ht, rfl, rfl, rfl⟩ hK2
    unfold wq_X9_helpOf_24
    refine pp_c _ (pp_le (by omega) (by omega)) (fun e2 => ?_) (fun e2 => ?_)
    · have e2 : t = L := by omega
      subst e2
      rw [show nI s + 1 = nI (s + 1) from nI_1 s]
      exact hK _ _ _ ⟨s + 1, by omega, rfl, by rw [mm_hs, hL], rfl⟩ (by rw [pp_cl (by omega), pp_cl (by omega)]; omega)
    · refine s9_shareOf R hi (by omega) ?_
      unfold wp_X9_at
      rw [show (2 : Int32) = nI 2 from rfl, show (16 : Int32) = nI 16 from rfl, show (4 : Int32) = nI 4 from rfl, show (48 : Int32) = nI 48 from rfl, pp_at L2]
      refine ⟨pp_in (by omega) (by omega), ?_⟩
      rw [pp_rA (by omega), show nI t + 1 = nI (t + 1) from nI_1 t]
      rintro v rfl
      have mu : L - (nI (t + 1)).toNatClampNeg < L - (nI t).toNatClampNeg := by rw [pp_cl (by omega), pp_cl (by omega)]; omega
      refine pp_c _ (lg_cmp_le _ _) (fun w => ?_) (fun w => ?_)
      · exact hK2 _ _ _ ⟨t + 1, by omega, rfl, by rw [mm_hm, hL]; exact (mm_mx_le w).symm, rfl⟩ mu
      · exact hK2 _ _ _ ⟨t + 1, by omega, rfl, by rw [mm_hm, hL]; exact (mm_mx_gt w).symm, rfl⟩ mu
def mm_ask (m : hh_S) (h i : Nat) : Bool := decide (hh_a m 11 h = 0) && decide (hh_a m 13 (24 * h + i) ≤ 0)
def mm_n1 (m : hh_S) (i h : Nat) (a : Int32 × Int32 × Int32) : Int32 × Int32 × Int32 := if mm_ask m h i = true ∧ ¬ mm_help m h i ≤ a.1 then (mm_help m h i, nI i, nI h) else a
def mm_ni (m : hh_S) (i : Nat) (a : Int32 × Int32 × Int32) : Nat → Int32 × Int32 × Int32
  | 0 => a
  | h + 1 => mm_n1 m i h (mm_ni m i a h)
noncomputable def mm_no (m : hh_S) (ns ni nh : Nat) : Nat → Int32 × Int32 × Int32
  | 0 => (0, -6, -6)
  | i + 1 => if mm_fix m i < 0 ∧ mm_open m ns ni i = true then mm_ni m i (mm_no m ns ni nh i) nh else mm_no m ns ni nh i
def mm_nk (a : Int32 × Int32 × Int32) : Prop := a = (0, -6, -6) ∨ (0 < a.1.toInt ∧ ¬ a.2.1 < 0)
theorem mm_nk_0 {a : Int32 × Int32 × Int32} (h : mm_nk a) : 0 ≤ a.1.toInt := by
  rcases h with h | h
  · rw [h]; decide
  · omega
theorem mm_n1_k {m : hh_S} {i h : Nat} {a : Int32 × Int32 × Int32} (hi : i < 2147483648) (k : mm_nk a) : mm_nk (mm_n1 m i h a) := by
  unfold mm_n1
  split
  · rename_i q
    have h0 := mm_nk_0 k
    have h1 := q.2
    rw [pp_nle, fa_lt] at h1
    exact Or.inr ⟨by show 0 < (mm_help m h i).toInt; omega, pp_p0 hi⟩
  · exact k
theorem mm_ni_k {m : hh_S} {i : Nat} {a : Int32 × Int32 × Int32} (hi : i < 2147483648) (k : mm_nk a) : ∀ h, mm_nk (mm_ni m i a h)
  | 0 => k
  | h + 1 => mm_n1_k hi (mm_ni_k hi k h)
theorem mm_no_k {m : hh_S} {ns ni nh : Nat} : ∀ i, i < 2147483648 → mm_nk (mm_no m ns ni nh i)
  | 0, _ => Or.inl rfl
  | i + 1, h => by
    have ih := mm_no_k (m := m) (ns := ns) (ni := ni) (nh := nh) i (by omega)
    unfold mm_no
    split
    · exact mm_ni_k (by omega) ih nh
    · exact ih
def rr_nb (a : Int32 × Int32 × Int32) (c : hh_S) : Prop := (a = (0, -6, -6) ∧ c.1 10 = -6 ∧ c.1 11 = -6 ∧ c.1 12 = -6) ∨ (0 < a.1.toInt ∧ ¬ a.2.1 < 0 ∧ c.1 10 = a.2.1 ∧ c.1 11 = a.2.2 ∧ c.1 12 = a.1)
theorem s8_seekHandFor {ns ni nh i : Nat} {a : Int32 × Int32 × Int32} {c m : hh_S} {Q : hh_S → Prop} (R : rr_C ns ni nh c m) (R9 : rr_9 ni c m) (T : rr_tb nh c m) (hi : i < ni) (B : rr_nb a c) (q : ∀ c', rr_fn c c' → rr_nb (mm_ni m i a nh) c' → Q c') : wp_X8_seekHandFor (nI i) c Q := by
  have h24 := R.2.1.1
  have h10 := R.2.2.1.1
  unfold wp_X8_seekHandFor
  refine hh_lp1_i (fun x σ => ∃ h, h ≤ nh ∧ x = nI h ∧ rr_fn c σ ∧ rr_nb (mm_ni m i a h) σ) (fun x σ => nh - x.toNatClampNeg) ?_ ⟨0, by omega, rfl, ⟨fun _ _ _ _ => rfl, rfl⟩, B⟩
  rintro K x σ ⟨h, hh, rfl, F, B⟩ hK
  unfold wq_X8_seekHandFor_2
  have RC := rr_fn_C F R
  obtain ⟨-, f1, -, f3⟩ := RC.2.2.1
  show (σ.1 320 ≤ nI h → _) ∧ (¬ σ.1 320 ≤ nI h → _)
  rw [f1]
  refine pp_c _ (pp_le (by omega) (by omega)) (fun e => ?_) (fun e => ⟨pp_in (by omega) (by omega), ?_⟩)
  · have e : h = nh := by omega
    subst e
    exact q _ F B
  · have mu : nh - (nI (h + 1)).toNatClampNeg < nh - (nI h).toNatClampNeg := by rw [pp_cl (by omega), pp_cl (by omega)]; omega
    have go : ∀ σ', rr_fn c σ' → rr_nb (mm_n1 m i h (mm_ni m i a h)) σ' → K (nI h + 1) σ' := by
      intro σ' F' B'
      rw [show nI h + 1 = nI (h + 1) from nI_1 h]
      exact hK _ _ ⟨h + 1, by omega, rfl, F', B'⟩ mu
    have stay : mm_ask m h i = false → K (nI h + 1) σ := fun w => go σ F (by rw [mm_n1, if_neg (fun z => by rw [w] at z; exact absurd z.1 (by decide))]; exact B)
    rw [pp_rA (by omega), (f3 h (by omega)).1]
    by_cases w1 : hh_a m 11 h = 0
    · refine pp_nt w1 ⟨pp_in (by omega) (by omega), pp_in (by omega) (by omega), ?_⟩
      rw [pp_rA (by omega), pp_cl (by omega)]
      rcases (RC.2.2.2.1 h (by omega)).1 i hi with ⟨z1, z2⟩ | ⟨k, L, z0, zk, zL, z1, z2⟩
      · have ask : mm_ask m h i = true := by unfold mm_ask; rw [decide_eq_true w1, z1]; rfl
        refine pp_nt z2 (s2_helpOf RC (rr_fn_9 F R9) (rr_fn_tb F T) (by omega) hi ?_)
        generalize mm_ni m i a h = A at *
        have keep : mm_help m h i ≤ A.1 → K (nI h + 1) σ := fun w => go σ F (by rw [mm_n1, if_neg (fun z => z.2 w)]; exact B)
        have new : ¬ mm_help m h i ≤ A.1 → ∀ σ11 : hh_S, σ11 = hh_uI σ 10 (nI i) → ∀ σ12 : hh_S, σ12 = hh_uI σ11 11 (nI h) → ∀ σ13 : hh_S, σ13 = hh_uI σ12 12 (mm_help m h i) → K (nI h + 1) σ13 := by
          intro w
          rintro σ1 rfl σ2 rfl σ3 rfl
          refine go _ ⟨fun k k1 k2 k3 => ?_, F.2⟩ ?_
          · show (if k = 12 then _ else if k = 11 then _ else if k = 10 then _ else σ.1 k) = _
            rw [if_neg k3, if_neg k2, if_neg k1]
            exact F.1 k k1 k2 k3
          · rw [mm_n1, if_pos ⟨ask, w⟩]
            have h0 : 0 ≤ A.1.toInt := by
              rcases B with B | B
              · rw [B.1]; decide
              · have := B.1; omega
            rw [pp_nle, fa_lt] at w
            exact Or.inr ⟨by show 0 < (mm_help m h i).toInt; omega, pp_p0 (by omega), rfl, rfl, rfl⟩
        have z0 : (0 : Int32).toInt = 0 := by decide
        have z6 : (-6 : Int32).toInt = -6 := by decide
        show (mm_help m h i ≤ 0 → _) ∧ (¬ mm_help m h i ≤ 0 → ((mm_help m h i ≤ σ.1 12 → _) ∧ (¬ mm_help m h i ≤ σ.1 12 → _)))
        rcases B with ⟨b1, b2, b3, b4⟩ | ⟨b1, b2, b3, b4, b5⟩
        · by_cases w2 : mm_help m h i ≤ 0
          · exact pp_t w2 (keep (by rw [b1]; exact w2))
          · refine pp_f w2 (pp_f ?_ (new (by rw [b1]; exact w2)))
            rw [b4]
            rw [pp_nle, fa_lt] at w2 ⊢
            omega
        · by_cases w2 : mm_help m h i ≤ 0
          · refine pp_t w2 (keep ?_)
            rw [fa_le] at w2 ⊢
            omega
          · rw [b5]
            exact pp_f w2 ⟨keep, new⟩
      · refine pp_nf (by rw [z2]; exact pp_n6 (by omega)) (stay ?_)
        unfold mm_ask
        rw [show decide (hh_a m 13 (24 * h + i) ≤ 0) = false from decide_eq_false (by rw [z1, show (0 : Int32) = nI 0 from rfl, pp_le (by omega) (by omega)]; omega), Bool.and_false]
    · exact pp_nf w1 (stay (by unfold mm_ask; rw [decide_eq_false w1, Bool.false_and]))
theorem s8_seekHelp {ns ni nh : Nat} {c m : hh_S} {Q : hh_S → Prop} (R : rr_C ns ni nh c m) (R9 : rr_9 ni c m) (T : rr_tb nh c m) (q : ∀ c', rr_fn c c' → rr_nb (mm_no m ns ni nh ni) c' → Q c') : wp_X8_seekHelp c Q := by
  have h24 := R.2.1.1
  unfold wp_X8_seekHelp
  rintro σ1 rfl σ2 rfl σ3 e3
  have F0 : rr_fn c σ3 := by
    rw [e3]
    refine ⟨fun k k1 k2 k3 => ?_, rfl⟩
    show (if k = 12 then _ else if k = 11 then _ else if k = 10 then _ else c.1 k) = _
    rw [if_neg k3, if_neg k2, if_neg k1]
  have B0 : rr_nb (0, -6, -6) σ3 := by rw [e3]; exact Or.inl ⟨rfl, rfl, rfl, rfl⟩
  refine hh_lp1_i (fun x σ => ∃ i, i ≤ ni ∧ x = nI i ∧ rr_fn c σ ∧ rr_nb (mm_no m ns ni nh i) σ) (fun x σ => ni - x.toNatClampNeg) ?_ ⟨0, by omega, rfl, F0, B0⟩
  clear F0 B0 e3 σ3
  rintro K x σ ⟨i, hi, rfl, F, B⟩ hK
  unfold wq_X8_seekHelp_20
  have RC := rr_fn_C F R
  obtain ⟨-, f1, -, -⟩ := RC.2.1
  show (σ.1 256 ≤ nI i → _) ∧ (¬ σ.1 256 ≤ nI i → _)
  rw [f1]
  refine pp_c _ (pp_le (by omega) (by omega)) (fun e => ?_) (fun e => ?_)
  · have e : i = ni := by omega
    subst e
    exact q _ F B
  · have mu : ni - (nI (i + 1)).toNatClampNeg < ni - (nI i).toNatClampNeg := by rw [pp_cl (by omega), pp_cl (by omega)]; omega
    rw [show nI i + 1 = nI (i + 1) from nI_1 i]
    refine s1_isFree RC (by omega) (pp_bz (fun w => ?_) (fun w => s8_isOpen RC (rr_fn_9 F R9) (by omega) (pp_bz (fun w2 => ?_) (fun w2 => s8_seekHandFor RC (rr_fn_9 F R9) (rr_fn_tb F T) (by omega) B ?_))))
    · exact hK _ _ ⟨i + 1, by omega, rfl, F, by rw [mm_no, if_neg (fun z => of_decide_eq_false w z.1)]; exact B⟩ mu
    · exact hK _ _ ⟨i + 1, by omega, rfl, F, by rw [mm_no, if_neg (fun z => by rw [w2] at z; exact absurd z.2 (by decide))]; exact B⟩ mu
    · intro c' F' B'
      exact hK _ _ ⟨i + 1, by omega, rfl, ⟨fun k k1 k2 k3 => (F'.1 k k1 k2 k3).trans (F.1 k k1 k2 k3), F'.2.trans F.2⟩, by rw [mm_no, if_pos ⟨of_decide_eq_true w, w2⟩]; exact B'⟩ mu
theorem s9_next {ns ni nh : Nat} {x : Int32} {c m : hh_S} {Q : Int32 → hh_S → Prop} (R : rr_C ns ni nh c m) (q : (0 ≤ (mm_no m ns ni nh ni).2.1 → ((¬ x = 0 → ((¬ x = 1 → Q (mm_no m ns ni nh ni).1 m) ∧ (x = 1 → Q (mm_no m ns ni nh ni).2.2 m))) ∧ (x = 0 → Q (mm_no m ns ni nh ni).2.1 m))) ∧ (¬ 0 ≤ (mm_no m ns ni nh ni).2.1 → Q (-6) m)) : ∃ n : Nat, hh_lp4 (wq_X9_next_45 x Q) n 0 (-6) (-6) 0 m := by
  obtain ⟨h24, -, e2, -⟩ := R.2.1
  obtain ⟨h10, -, f2, -⟩ := R.2.2.1
  refine hh_lp4_i (fun a b d f σ => ∃ i, i ≤ ni ∧ f = nI i ∧ a = (mm_no m ns ni nh i).1 ∧ b = (mm_no m ns ni nh i).2.1 ∧ d = (mm_no m ns ni nh i).2.2 ∧ m = σ) (fun a b d f σ => ni - f.toNatClampNeg) ?_ ⟨0, by omega, rfl, rfl, rfl, rfl, rfl⟩
  rintro K a b d f σ ⟨i, hi, rfl, rfl, rfl, rfl, rfl⟩ hK
  unfold wq_X9_next_45
  show (m.1 7 ≤ nI i → _) ∧ (¬ m.1 7 ≤ nI i → _)
  rw [e2]
  refine pp_c _ (pp_le (by omega) (by omega)) (fun e => ?_) (fun e => ?_)
  · have e : i = ni := by omega
    subst e
    exact q
  · have mu : ni - (nI (i + 1)).toNatClampNeg < ni - (nI i).toNatClampNeg := by rw [pp_cl (by omega), pp_cl (by omega)]; omega
    have go : ∀ A : Int32 × Int32 × Int32, A = mm_no m ns ni nh (i + 1) → K A.1 A.2.1 A.2.2 (nI i + 1) m := by
      intro A hA
      rw [show nI i + 1 = nI (i + 1) from nI_1 i]
      exact hK _ _ _ _ _ ⟨i + 1, by omega, rfl, by rw [hA], by rw [hA], by rw [hA], rfl⟩ mu
    have kA := mm_no_k (m := m) (ns := ns) (ni := ni) (nh := nh) i (by omega)
    have U : mm_no m ns ni nh (i + 1) = if mm_fix m i < 0 ∧ mm_open m ns ni i = true then mm_ni m i (mm_no m ns ni nh i) nh else mm_no m ns ni nh i := by rw [mm_no]
    generalize mm_no m ns ni nh i = A at *
    refine hh_lp4_i (fun a b d f σ => ∃ h, h ≤ nh ∧ (h = 0 ∨ (mm_fix m i < 0 ∧ mm_open m ns ni i = true)) ∧ f = nI h ∧ a = (mm_ni m i A h).1 ∧ b = (mm_ni m i A h).2.1 ∧ d = (mm_ni m i A h).2.2 ∧ m = σ) (fun a b d f σ => nh - f.toNatClampNeg) ?_ ⟨0, by omega, Or.inl rfl, rfl, rfl, rfl, rfl, rfl⟩
    rintro K2 a b d f σ ⟨h, hh, st, rfl, rfl, rfl, rfl, rfl⟩ hK2
    unfold wq_X9_next_57
    have kB := mm_ni_k (m := m) (i := i) (by omega) kA h
    have V : mm_ni m i A (h + 1) = mm_n1 m i h (mm_ni m i A h) := by rw [mm_ni]
    have out : ¬ (mm_fix m i < 0 ∧ mm_open m ns ni i = true) → K (mm_ni m i A h).1 (mm_ni m i A h).2.1 (mm_ni m i A h).2.2 (nI i + 1) m := by
      intro w
      rcases st with st | st
      · subst st
        exact go A (by rw [U, if_neg w])
      · exact absurd st w
    show (m.1 13 ≤ nI h → _) ∧ (¬ m.1 13 ≤ nI h → _)
    rw [f2]
    refine pp_c _ (pp_le (by omega) (by omega)) (fun e3 => ?_) (fun e3 => s9_fixed (by omega) ?_)
    · have e3 : h = nh := by omega
      by_cases w : mm_fix m i < 0 ∧ mm_open m ns ni i = true
      · exact go (mm_ni m i A h) (by rw [U, if_pos w, e3])
      · exact out w
    · refine pp_c (¬ mm_fix m i < 0) pp_nlt.symm (fun w => out (fun z => w z.1)) (fun w => s9_isOpen R (by omega) (pp_bz (fun w2 => out (fun z => by rw [w2] at z; exact absurd z.2 (by decide))) (fun w2 => ⟨pp_in (by omega) (by omega), ?_⟩)))
      have w := Classical.not_not.mp w
      rw [show nI h + 1 = nI (h + 1) from nI_1 h]
      have mu2 : nh - (nI (h + 1)).toNatClampNeg < nh - (nI h).toNatClampNeg := by rw [pp_cl (by omega), pp_cl (by omega)]; omega
      generalize mm_ni m i A h = B at *
      have stay : mm_n1 m i h B = B → K2 B.1 B.2.1 B.2.2 (nI (h + 1)) m := fun z => hK2 _ _ _ _ _ ⟨h + 1, by omega, Or.inr ⟨w, w2⟩, rfl, by rw [V, z], by rw [V, z], by rw [V, z], rfl⟩ mu2
      have no : mm_ask m h i = false → (((0 : Int32) ≤ B.1 → K2 B.1 B.2.1 B.2.2 (nI (h + 1)) m) ∧ (¬ (0 : Int32) ≤ B.1 → K2 0 (nI i) (nI h) (nI (h + 1)) m)) := by
        intro z
        refine pp_t ?_ (stay (if_neg (fun y => by rw [z] at y; exact absurd y.1 (by decide))))
        have := mm_nk_0 kB
        rw [fa_le]
        exact this
      rw [show (24 : Int32) = nI 24 from rfl, pp_idx, pp_rA (by omega), pp_rA (by omega)]
      by_cases w3 : hh_a m 11 h = 0
      · refine pp_nt w3 ⟨pp_in (by omega) (by omega), ?_⟩
        by_cases w4 : hh_a m 13 (24 * h + i) ≤ 0
        · have ask : mm_ask m h i = true := by unfold mm_ask; rw [decide_eq_true w3, decide_eq_true w4]; rfl
          refine pp_t w4 (s9_helpOf R (by omega) (by omega) ⟨fun w5 => stay (if_neg (fun z => z.2 w5)), fun w5 => ?_⟩)
          have E : mm_n1 m i h B = (mm_help m h i, nI i, nI h) := if_pos ⟨ask, w5⟩
          exact hK2 _ _ _ _ _ ⟨h + 1, by omega, Or.inr ⟨w, w2⟩, rfl, by rw [V, E], by rw [V, E], by rw [V, E], rfl⟩ mu2
        · exact pp_f w4 (no (by unfold mm_ask; rw [decide_eq_false w4, Bool.and_false]))
      · exact pp_nf w3 (no (by unfold mm_ask; rw [decide_eq_false w3, Bool.false_and]))
theorem ps_next (x : Int32) : RR_i (wp_X8_next x) (wp_X9_next x) := by
  rintro c m R
  obtain ⟨sn, ns, ni, nh, R1, RC, R7, R8, R9⟩ := id R
  obtain ⟨h10, f1, f2, f3⟩ := RC.2.2.1
  unfold wp_X8_next
  by_cases y0 : x < 0
  · refine pp_t y0 ?_
    unfold wp_X9_next
    exact s9_inF (fun w => w.1 y0) (pp_nt rfl ⟨rfl, R⟩)
  refine pp_f y0 ?_
  by_cases y1 : ¬ x ≤ 2
  · refine pp_f y1 ?_
    unfold wp_X9_next
    exact s9_inF (fun w => w.2 (fa_of_nle y1)) (pp_nt rfl ⟨rfl, R⟩)
  have y1 := Classical.not_not.mp y1
  refine pp_t y1 ?_
  show (c.1 9 = c.1 320 → _) ∧ (¬ c.1 9 = c.1 320 → _)
  rw [f1]
  have M : ∀ Q : Int32 → hh_S → Prop, ((m.1 20 = 0 → Q (-3) m) ∧ (¬ m.1 20 = 0 → ((m.1 13 ≤ m.1 22 → ∃ n : Nat, hh_lp4 (wq_X9_next_45 x Q) n 0 (-6) (-6) 0 m) ∧ (¬ m.1 13 ≤ m.1 22 → Q (-3) m)))) → wp_X9_next x m Q := by
    intro Q q
    unfold wp_X9_next
    exact s9_inT y0 (fun w => (fa_of_lt w).2.1 y1) (pp_nf (by decide) q)
  rcases R8 with ⟨g1, g2⟩ | ⟨g1, ji, jh, g2, g3, g4, g5, g6, g7⟩
  · refine pp_f ?_ ?_
    · rw [g2]
      intro z
      exact pp_p0 (n := nh) (by omega) (by rw [← z]; decide)
    · refine M _ (pp_t g1 ?_)
      exact ⟨rfl, R⟩
  · rw [g6]
    by_cases w : jh = nh
    · subst w
      have T : rr_tb jh c m := g7
      refine pp_t rfl (s8_seekHelp RC R9 T ?_)
      intro c' F B
      have R' := rr_fn_s F R
      generalize hA : mm_no m ns ni jh ni = A at *
      have N : ∀ Q : Int32 → hh_S → Prop, ((0 ≤ A.2.1 → ((¬ x = 0 → ((¬ x = 1 → Q A.1 m) ∧ (x = 1 → Q A.2.2 m))) ∧ (x = 0 → Q A.2.1 m))) ∧ (¬ 0 ≤ A.2.1 → Q (-6) m)) → wp_X9_next x m Q := by
        intro Q q
        rw [← hA] at q
        exact M Q (pp_f (by rw [g1]; decide) (pp_t (by rw [f2, g5, pp_le (by omega) (by omega)]; omega) (s9_next RC q)))
      rcases B with ⟨b1, b2, b3, b4⟩ | ⟨b1, b2, b3, b4, b5⟩
      · have E : ∀ z : Int32, z = -6 → wp_X9_next x m (fun r' m' => z = r' ∧ RR_s c' m') := by
          intro z hz
          refine N _ (pp_f (by rw [b1]; decide) ?_)
          exact ⟨hz, R'⟩
        exact ⟨fun _ => ⟨fun _ => E _ b4, fun _ => E _ b3⟩, fun _ => E _ b2⟩
      · have p0 : (0 : Int32) ≤ A.2.1 := pp_nlt.mp b2
        refine ⟨fun w1 => ⟨fun w2 => N _ (pp_t p0 (pp_nf w1 (pp_nf w2 ?_))), fun w2 => N _ (pp_t p0 (pp_nf w1 (pp_nt w2 ?_)))⟩, fun w1 => N _ (pp_t p0 (pp_nt w1 ?_))⟩
        · exact ⟨b5, R'⟩
        · exact ⟨b4, R'⟩
        · exact ⟨b3, R'⟩
    · refine pp_f (fun z => w ((pp_eq (by omega) (by omega)).mp z)) (M _ (pp_f (by rw [g1]; decide) (pp_f ?_ ?_)))
      · rw [f2, g5, pp_le (by omega) (by omega)]
        omega
      · exact ⟨rfl, R⟩
