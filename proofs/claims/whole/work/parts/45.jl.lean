/-! ===== join, lean ===== -/
theorem jg_s_fix {d : hh_S} {ni nh i l : Nat} (h : ¬ mm_fix d i < 0) : ∀ k, jg_s d ni nh k i l = if mm_fix d i = nI l then 1000000 else 0
  | 0 => by show jg_0 d nh i l = _; rw [jg_0, if_neg h]
  | k + 1 => by
    have ih := jg_s_fix (ni := ni) (nh := nh) (l := l) h k
    show jg_x d _ _ nh i l = _
    rw [jg_x, if_neg (by unfold jg_f; rw [decide_eq_false h, Bool.false_and]; decide)]
    exact ih
theorem ps_join : RR_i wp_X8_join wp_X9_join := by
  rintro c m ⟨sn, ns, ni, nh, R1, RC, R7, R8, R9⟩
  obtain ⟨h10, f1, f2, f3⟩ := id RC.2.2.1
  have h24 := RC.2.1.1
  have RD : rr_C ns ni nh c (jg_d m) := jg_C' rfl RC
  unfold wp_X8_join
  intro c1 e1
  have RC1 : rr_C ns ni nh c1 (jg_d m) := by rw [e1]; exact rr_C_c ⟨rfl, rfl, rfl⟩ (fun _ _ => rfl) RD
  refine s2_run RC1 ?_
  intro c2 F2 S2 T2
  unfold wp_X9_join
  refine s9_joinAll RD rfl ?_
  intro m2 G2 U2 V2
  generalize hS : jg_s (jg_d m) ni nh (jg_N (jg_d m) ni nh + 1) = S at *
  generalize hT : jg_t (jg_d m) (jg_s (jg_d m) ni nh (jg_N (jg_d m) ni nh)) ni = T at *
  rintro m3 rfl m4 rfl m5 e5
  refine ⟨rfl, sn, ns, ni, nh, ?_, ?_, ?_, ?_, ?_⟩
  · refine rr_1_e (c := c) (m := m) ?_ ?_ ?_ ?_ R1
    · rw [F2.1, e1]; rfl
    · rw [e5]; show m2.1 0 = _; rw [G2.1]
    · rw [F2.2 19 (by omega), e1]; rfl
    · rw [e5]; exact G2.2 1 (by omega) (by omega) (by omega)
  · refine rr_C_m (m := m) ?_ ?_ (rr_C_c (c := c) ?_ ?_ RC)
    · rw [e5]; show m2.1 2 = _ ∧ m2.1 7 = _ ∧ m2.1 13 = _; rw [G2.1]; exact ⟨rfl, rfl, rfl⟩
    · intro k hk; rw [e5]; unfold rr_km at hk; exact G2.2 k (by omega) (by omega) (by omega)
    · rw [F2.1, e1]; exact ⟨rfl, rfl, rfl⟩
    · intro k hk; unfold rr_kc at hk; rw [F2.2 k (by omega), e1]; rfl
  · refine rr_7_e (c := c) (m := m) ?_ ?_ ?_ ?_ R7
    · rw [F2.2 43 (by omega), e1]; rfl
    · rw [F2.2 44 (by omega), e1]; rfl
    · rw [e5]; exact G2.2 15 (by omega) (by omega) (by omega)
    · rw [e5]; exact G2.2 16 (by omega) (by omega) (by omega)
  · refine Or.inr ⟨by rw [e5]; rfl, ni, nh, Nat.le_refl _, Nat.le_refl _, ?_, ?_, ?_, fun h hh L t s q1 q2 q3 q4 => ?_⟩
    · rw [e5]; show m2.1 7 = _; rw [G2.1]; exact RC.2.1.2.2.1
    · rw [e5]; show m2.1 13 = _; rw [G2.1]; exact f2
    · rw [F2.1, e1]; exact f1
    · have a := T2 h hh L t s q1 q2 q3 q4
      have b := V2 h hh L t s q1 q2 q3 q4
      rw [show 79 + 34 * 0 + h = 79 + h by omega] at a
      rw [a, e5]
      exact b.symm
  · intro i hi l L L4 h22 hl
    obtain ⟨L', L2', L4', hL', lb', l22', -⟩ := rr_lb RC hi
    have e22 : hh_a c2 22 i = hh_a c 22 i := by unfold hh_a; rw [F2.2 22 (by omega), e1]; rfl
    have eL : L = L' := (pp_eq (by omega) (by omega)).mp (h22.symm.trans (e22.trans l22'))
    have hl2 : l < mm_L (jg_d m) i := by show l < mm_L m i; omega
    have a := S2 i hi l hl2
    have b := U2 i hi l hl2
    rw [show 55 + 34 * 0 + i = 55 + i by omega] at a
    rw [a]
    have fx : mm_fix m5 i = mm_fix m i := by
      unfold mm_fix hh_a
      rw [e5]
      show (if m2.2.2.1 8 i < 0 then m2.2.2.1 9 i else m2.2.2.1 8 i) = _
      rw [G2.2 8 (by omega) (by omega) (by omega), G2.2 9 (by omega) (by omega) (by omega)]
    have s1 : m5.1 20 = 1 := by rw [e5]; rfl
    have s2 : m5.1 21 = nI ni := by rw [e5]; show m2.1 7 = _; rw [G2.1]; exact RC.2.1.2.2.1
    have s3 : hh_a m5 17 (4 * i + l) = nI (S i l) := by rw [e5]; exact b
    unfold mm_sh
    rw [fx, s1, s2, s3]
    by_cases w : mm_fix m i < 0
    · rw [if_pos w, if_neg (by decide), if_neg (fun z => by have := (pp_le (by omega) (by omega)).mp z; omega)]
    · rw [if_neg w, ← hS, jg_s_fix (d := jg_d m) (show ¬ mm_fix (jg_d m) i < 0 from w)]
      show nI (if mm_fix m i = nI l then 1000000 else 0) = _
      split <;> rfl
theorem s9_laidEnd {ns ni nh i : Nat} {S : Nat → Nat → Nat} {c m d : hh_S} {Q : Int32 → hh_S → Prop} (R : rr_C ns ni nh c d) (E : jg_d m = d) (HS : jm_S d ni S m) (hi : i < ni) (q : Q (nI (jg_E d S i)) m) : wp_X9_laidEnd (nI i) m Q := by
  have h24 := R.2.1.1
  obtain ⟨L, L2, L4, hL, -⟩ := rr_lb R hi
  unfold jg_E at q
  have hf : ∀ l, l < L → hh_a m 17 (4 * i + l) = (fun l => nI (S i l)) l := fun l hl => HS i hi l (by omega)
  rw [hL] at q
  generalize (fun l => nI (S i l)) = f at *
  unfold wp_X9_laidEnd
  refine hh_lp2_i (fun a b σ => ∃ j, 1 ≤ j ∧ j ≤ L ∧ b = nI j ∧ a = nI (pp_bst f j) ∧ m = σ) (fun a b σ => L - b.toNatClampNeg) ?_ ⟨1, by omega, by omega, rfl, by rw [pp_bst_1]; rfl, rfl⟩
  rintro K a b' σ ⟨j, hj1, hj, rfl, rfl, rfl⟩ hK
  unfold wq_X9_laidEnd_4
  refine s9_labelsD R E hi ?_
  rw [hL]
  refine pp_c _ (pp_le (by omega) (by omega)) (fun e => ?_) (fun e => ?_)
  · have e : j = L := by omega
    subst e
    exact q
  · have hb := pp_bst_lt f hj1
    have s1 : nI j + 1 = nI (j + 1) := nI_1 j
    rw [s1, show (4 : Int32) = nI 4 from rfl, pp_idx, pp_idx, pp_rA (by omega), pp_rA (by omega), hf j (by omega), hf (pp_bst f j) (by omega)]
    have mu : L - (nI (j + 1)).toNatClampNeg < L - (nI j).toNatClampNeg := by rw [pp_cl (by omega), pp_cl (by omega)]; omega
    refine ⟨pp_in (by omega) (by omega), pp_in (by omega) (by omega), fun e2 => ?_, fun e2 => ?_⟩
    · exact hK _ _ _ ⟨j + 1, by omega, by omega, rfl, by rw [pp_bst, if_neg (fun z => (fa_of_lt z).2.1 e2)], rfl⟩ mu
    · exact hK _ _ _ ⟨j + 1, by omega, by omega, rfl, by rw [pp_bst, if_pos (fa_of_nle e2)], rfl⟩ mu
theorem rr_outC {ns ni nh h : Nat} {b : Bool} {c m : hh_S} (RC : rr_C ns ni nh c m) : rr_C ns ni nh (hh_sA c 26 (nI h) (pp_i b)) (hh_sA m 11 (nI h) (pp_i b)) ∨ 10 ≤ h := by
  by_cases hh : h < 10
  · refine Or.inl ?_
    obtain ⟨h10, f1, f2, f3⟩ := RC.2.2.1
    refine ⟨RC.1, RC.2.1, ⟨h10, f1, f2, fun j hj => ?_⟩, rr_5_e (c := c) (m := m) h10 rfl (fun h hh => pp_sA_f (by omega)) rfl RC.2.2.2.1, RC.2.2.2.2⟩
    obtain ⟨k1, k2, k3, k4⟩ := f3 j hj
    rw [pp_sA_a (by omega), pp_sA_a (by omega)]
    by_cases e4 : j = h
    · rw [if_pos ⟨rfl, e4⟩, if_pos ⟨rfl, e4⟩]
      refine ⟨rfl, ?_, k3, k4⟩
      cases b
      · exact Or.inl rfl
      · exact Or.inr rfl
    · rw [if_neg (fun z => e4 z.2), if_neg (fun z => e4 z.2)]
      exact ⟨k1, k2, k3, k4⟩
  · exact Or.inr (by omega)
theorem pp_sA_2 {a c : hh_S} {k h : Nat} {x v : Int32} (hh : h < 2147483648) (e : ∀ p, p ≠ h → hh_a a k p = hh_a c k p) : (hh_sA a k (nI h) x).2.2.1 k = (hh_sA c k (nI h) x).2.2.1 k := by
  funext p
  show hh_a (hh_sA a k (nI h) x) k p = hh_a (hh_sA c k (nI h) x) k p
  rw [pp_sA_a hh, pp_sA_a hh]
  by_cases z : p = h
  · rw [if_pos ⟨rfl, z⟩, if_pos ⟨rfl, z⟩]
  · rw [if_neg (fun y => z y.2), if_neg (fun y => z y.2)]
    exact e p z
theorem jg_E_L {d d' : hh_S} {S : Nat → Nat → Nat} {i : Nat} (h : mm_L d i = mm_L d' i) : jg_E d S i = jg_E d' S i := by unfold jg_E; rw [h]
/-- the SHARES of a JOINING with a HAND put out, or not -/
noncomputable def jl_S (m : hh_S) (ni nh h : Nat) (b : Bool) : Nat → Nat → Nat := jg_s (jg_d (hh_sA m 11 (nI h) (pp_i b))) ni nh (jg_N (jg_d (hh_sA m 11 (nI h) (pp_i b))) ni nh + 1)
noncomputable def jl_bits (m : hh_S) (ni nh h : Nat) : Int32 := jg_bits (fun i => decide (jg_E m (jl_S m ni nh h true) i = jg_E m (jl_S m ni nh h false) i)) ni
/-- the class, beside the model: what lean leaves -/
def jl_c (c c' : hh_S) : Prop := c'.1 = c.1 ∧ ∀ k, k ≠ 41 → k < 89 → c'.2.2.1 k = c.2.2.1 k
theorem s8_lean {ns ni nh h : Nat} {c m : hh_S} {Q : Int32 → hh_S → Prop} (RC : rr_C ns ni nh c m) (hh : h < nh) (q : ∀ c', jl_c c c' → Q (jl_bits m ni nh h) c') : wp_X8_lean (nI h) c Q := by
  obtain ⟨h10, f1, f2, f3⟩ := id RC.2.2.1
  have h24 := RC.2.1.1
  have I : vp_in (nI h) 10 := pp_in (by omega) (by omega)
  have RO : ∀ b : Bool, rr_C ns ni nh (hh_sA c 26 (nI h) (pp_i b)) (jg_d (hh_sA m 11 (nI h) (pp_i b))) := fun b => jg_C' rfl ((rr_outC RC).resolve_right (by omega))
  unfold wp_X8_lean
  refine s0_has f1 h10 ?_
  rw [pp_ix_nI hh (by omega)]
  refine pp_nf (by decide) ⟨I, ?_⟩
  intro v hv
  rw [pp_rA (by omega)] at hv
  refine ⟨I, ?_⟩
  rw [show vp_nar .boolean (1 : Int32) = pp_i true from rfl, show vp_nar .boolean (0 : Int32) = pp_i false from rfl]
  rintro c1 e1
  refine s2_run (b := 1) (d := jg_d (hh_sA m 11 (nI h) (pp_i true))) (by rw [e1]; exact RO true) ?_
  intro c2 F2 S2 _
  refine s2_keepEnds (b := 1) (Nat.le_refl 1) (by rw [e1] at F2; exact jc_E_C (jc_F_E F2) (RO true)) S2 ?_
  intro c3 A3 B3 C3
  refine ⟨I, ?_⟩
  intro c4 e4
  have k3 : ∀ k, k ≠ 26 → k ≠ 41 → k < 89 → c3.2.2.1 k = c.2.2.1 k := fun k g1 g2 g3 => by rw [B3 k (by omega), F2.2 k (by omega), e1, pp_sA_f g1]
  have k26 : ∀ p, p ≠ h → hh_a c3 26 p = hh_a c 26 p := by
    intro p hp
    have : hh_a c3 26 p = hh_a c1 26 p := congrFun ((B3 26 (by omega)).trans (F2.2 26 (by omega))) p
    rw [this, e1, pp_sA_a (by omega), if_neg (fun z => hp z.2)]
  have R4 : rr_C ns ni nh c4 (jg_d (hh_sA m 11 (nI h) (pp_i false))) := by
    refine rr_C_c (c := hh_sA c 26 (nI h) (pp_i false)) ?_ ?_ (RO false)
    · rw [e4]; show c3.1 128 = _ ∧ c3.1 256 = _ ∧ c3.1 320 = _; rw [A3, F2.1, e1]; exact ⟨rfl, rfl, rfl⟩
    · intro k hk
      unfold rr_kc at hk
      by_cases z : k = 26
      · rw [z, e4]
        exact pp_sA_2 (v := 0) (by omega) k26
      · rw [e4, pp_sA_f z, pp_sA_f z, k3 k z (by omega) (by omega)]
  refine s2_run (b := 1) R4 ?_
  intro c5 F5 S5 _
  refine ⟨I, ?_⟩
  intro c6 e6
  have hv2 : vp_nar .boolean v = v := by
    obtain ⟨g1, g2, -⟩ := f3 h hh
    rw [hv, g1]
    rcases g2 with g | g <;> rw [g] <;> rfl
  rw [hv2] at e6
  have fin : jl_c c c6 := by
    refine ⟨?_, fun k g1 g2 => ?_⟩
    · rw [e6]; show c5.1 = _; rw [F5.1, e4]; show c3.1 = _; rw [A3, F2.1, e1]; rfl
    · by_cases z : k = 26
      · rw [z]
        funext p
        show hh_a c6 26 p = hh_a c 26 p
        rw [e6, pp_sA_a (by omega)]
        by_cases y : p = h
        · rw [if_pos ⟨rfl, y⟩, hv, y]
        · rw [if_neg (fun w => y w.2)]
          have : hh_a c5 26 p = hh_a c4 26 p := congrFun (F5.2 26 (by omega)) p
          rw [this, e4, pp_sA_a (by omega), if_neg (fun w => y w.2), k26 p y]
      · rw [e6, pp_sA_f z, F5.2 k (by omega), e4, pp_sA_f z, k3 k z g1 g2]
  have R6 : rr_C ns ni nh c6 m := rr_C_c (by rw [fin.1]; exact ⟨rfl, rfl, rfl⟩) (fun k hk => fin.2 k (by unfold rr_kc at hk; omega) (by unfold rr_kc at hk; omega)) RC
  have S6 : jc_S 1 m ni (jl_S m ni nh h false) c6 := by
    intro i hi l hl
    rw [e6, pp_sA_n (by omega)]
    exact S5 i hi l hl
  refine s2_endsUnlikeKept (b := 1) (S' := jl_S m ni nh h true) R6 S6 (fun i hi => ?_) (q c6 fin)
  have a : hh_a c6 (35 + 6 * 1) i = hh_a c3 (35 + 6 * 1) i := by
    rw [e6, pp_sA_n (by omega)]
    have : hh_a c5 (35 + 6 * 1) i = hh_a c4 (35 + 6 * 1) i := congrFun (F5.2 _ (by omega)) i
    rw [this, e4, pp_sA_n (by omega)]
  rw [a, C3 i hi]
  exact congrArg nI (jg_E_L rfl)
