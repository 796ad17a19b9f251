/-! ===== lean, in the model ===== -/
theorem jl_copy {N ka kb : Nat} {X : hh_S → Prop} {m : hh_S} (hN : N < 2147483647) (hk : ka ≠ kb) (q : ∀ m', m'.1 = m.1 → (∀ k, k ≠ ka → m'.2.2.1 k = m.2.2.1 k) → (∀ p, p < N → hh_a m' ka p = hh_a m kb p) → X m') : ∃ n : Nat, hh_lp1 (fun (K : Int32 → hh_S → Prop) (x : Int32) (σ : hh_S) => ((nI N ≤ x → X σ) ∧ (¬ nI N ≤ x → (vp_in x N ∧ (vp_in x N ∧ ∀ σ4 : hh_S, σ4 = hh_sA σ ka x (hh_rA σ kb x) → (K (x + (1 : Int32)) σ4)))))) n (0 : Int32) m := by
  refine hh_lp1_i (fun x σ => ∃ j, j ≤ N ∧ x = nI j ∧ σ.1 = m.1 ∧ (∀ k, k ≠ ka → σ.2.2.1 k = m.2.2.1 k) ∧ (∀ p, p < j → hh_a σ ka p = hh_a m kb p)) (fun x σ => N - x.toNatClampNeg) ?_ ⟨0, by omega, rfl, rfl, fun _ _ => rfl, fun p hp => absurd hp (Nat.not_lt_zero p)⟩
  rintro K x σ ⟨j, hj, rfl, hI, hO, hV⟩ hK
  refine pp_c _ (pp_le (by omega) (by omega)) (fun e => ?_) (fun e => ⟨pp_in (by omega) (by omega), pp_in (by omega) (by omega), ?_⟩)
  · have e : j = N := by omega
    subst e
    exact q σ hI hO hV
  · intro σ2 e2
    rw [pp_rA (by omega)] at e2
    rw [show nI j + 1 = nI (j + 1) from nI_1 j]
    refine hK _ _ ⟨j + 1, by omega, rfl, by rw [e2]; exact hI, fun k k1 => by rw [e2, pp_sA_f k1]; exact hO k k1, fun p hp => ?_⟩ (by rw [pp_cl (by omega), pp_cl (by omega)]; omega)
    rw [e2, pp_sA_a (by omega)]
    by_cases z : p = j
    · rw [if_pos ⟨rfl, z⟩, z]
      exact congrFun (hO kb (fun y => hk y.symm)) j
    · rw [if_neg (fun y => z y.2)]
      exact hV p (by omega)
def jl_m (m m' : hh_S) : Prop := m'.1 = m.1 ∧ (∀ k, k ≠ 17 → k ≠ 18 → k ≠ 19 → k ≠ 20 → k ≠ 25 → k ≠ 27 → m'.2.2.1 k = m.2.2.1 k) ∧ (∀ p, p < 96 → hh_a m' 17 p = hh_a m 17 p) ∧ (∀ p, p < 480 → hh_a m' 18 p = hh_a m 18 p)
theorem s9_lean {ns ni nh h : Nat} {c m : hh_S} {Q : Int32 → hh_S → Prop} (RC : rr_C ns ni nh c m) (hh : h < nh) (q : ∀ m', jl_m m m' → Q (jl_bits m ni nh h) m') : wp_X9_lean (nI h) m Q := by
  obtain ⟨h10, f1, f2, f3⟩ := id RC.2.2.1
  have h24 := RC.2.1.1
  have I : vp_in (nI h) 10 := pp_in (by omega) (by omega)
  have RO : ∀ b : Bool, rr_C ns ni nh (hh_sA c 26 (nI h) (pp_i b)) (jg_d (hh_sA m 11 (nI h) (pp_i b))) := fun b => jg_C' rfl ((rr_outC RC).resolve_right (by omega))
  unfold wp_X9_lean
  refine s9_isHand f2 h10 ?_
  rw [pp_ix_nI hh (by omega)]
  refine pp_nf (by decide) ?_
  refine jl_copy (N := 96) (ka := 19) (kb := 17) (X := fun σ => ∃ n : Nat, hh_lp1 (wq_X9_lean_38 (nI h) Q) n (0 : Int32) σ) (by omega) (by omega) ?_
  intro m1 a1 b1 g1
  refine jl_copy (N := 480) (ka := 20) (kb := 18) (X := fun σ => (vp_in (nI h) 10 ∧ (∀ v32 : Int32, v32 = (hh_rA σ 11 (nI h)) → (vp_in (nI h) 10 ∧ ∀ σ34 : hh_S, σ34 = hh_sA σ 11 (nI h) (vp_nar .boolean (0 : Int32)) → (wp_X9_joinAll σ34 (fun (r35 : Int32) (σ36 : hh_S) => (∃ n : Nat, hh_lp1 (wq_X9_lean_84 (nI h) v32 Q) n (0 : Int32) σ36))))))) (by omega) (by omega) ?_
  intro m2 a2 b2 g2
  refine ⟨I, ?_⟩
  rw [pp_rA (by omega)]
  intro v hv
  have hv : v = hh_a m 11 h := by rw [hv]; exact congrFun ((b2 11 (by omega)).trans (b1 11 (by omega))) h
  refine ⟨I, ?_⟩
  rw [show vp_nar .boolean (0 : Int32) = pp_i false from rfl]
  intro m3 e3
  have E3 : jg_d m3 = jg_d (hh_sA m 11 (nI h) (pp_i false)) := by
    rw [e3]
    refine jg_d_of ?_ (fun k k1 k2 => ?_)
    · show m2.1 2 = _ ∧ m2.1 7 = _ ∧ m2.1 13 = _; rw [a2, a1]; exact ⟨rfl, rfl, rfl⟩
    · by_cases z : k = 11
      · rw [z]
        exact pp_sA_2 (v := 0) (by omega) (fun p _ => congrFun ((b2 11 (by omega)).trans (b1 11 (by omega))) p)
      · rw [pp_sA_f z, pp_sA_f z, b2 k (by omega), b1 k (by omega)]
  refine s9_joinAll (RO false) E3 ?_
  intro m4 F4 S4 _
  have S4 : jm_S m ni (jl_S m ni nh h false) m4 := S4
  have E4 := jm_F_d F4 E3
  -- what stands so far
  have k4 : ∀ k, k ≠ 11 → k ≠ 17 → k ≠ 18 → k ≠ 19 → k ≠ 20 → k ≠ 25 → m4.2.2.1 k = m.2.2.1 k := fun k k1 k2 k3 k4 k5 k6 => by rw [F4.2 k k2 k3 k6, e3, pp_sA_f k1, b2 k k5, b1 k k4]
  have s4 : m4.1 = m.1 := by rw [F4.1, e3]; exact a2.trans a1
  have p4 : ∀ p, p ≠ h → hh_a m4 11 p = hh_a m 11 p := by
    intro p hp
    have : hh_a m4 11 p = hh_a m3 11 p := congrFun (F4.2 11 (by omega) (by omega) (by omega)) p
    rw [this, e3, pp_sA_a (by omega), if_neg (fun z => hp z.2)]
    exact congrFun ((b2 11 (by omega)).trans (b1 11 (by omega))) p
  have x4 : ∀ p, p < 96 → hh_a m4 19 p = hh_a m 17 p := by
    intro p hp
    have : hh_a m4 19 p = hh_a m3 19 p := congrFun (F4.2 19 (by omega) (by omega) (by omega)) p
    rw [this, e3, pp_sA_n (by omega)]
    exact (congrFun (b2 19 (by omega)) p).trans (g1 p hp)
  have y4 : ∀ p, p < 480 → hh_a m4 20 p = hh_a m 18 p := by
    intro p hp
    have : hh_a m4 20 p = hh_a m3 20 p := congrFun (F4.2 20 (by omega) (by omega) (by omega)) p
    rw [this, e3, pp_sA_n (by omega)]
    exact (g2 p hp).trans (congrFun (b1 18 (by omega)) p)
  refine hh_lp1_i (fun x σ => ∃ j, j ≤ ni ∧ x = nI j ∧ σ.1 = m.1 ∧ (∀ k, k ≠ 27 → σ.2.2.1 k = m4.2.2.1 k) ∧ (∀ i, i < j → hh_a σ 27 i = nI (jg_E m (jl_S m ni nh h false) i))) (fun x σ => ni - x.toNatClampNeg) ?_ ⟨0, by omega, rfl, s4, fun _ _ => rfl, fun i hi => absurd hi (Nat.not_lt_zero i)⟩
  rintro K x σ ⟨j, hj, rfl, hI, hO, hV⟩ hK
  unfold wq_X9_lean_84
  have E5 : jg_d σ = jg_d (hh_sA m 11 (nI h) (pp_i false)) := (jg_d_of (by rw [hI, s4]; exact ⟨rfl, rfl, rfl⟩) (fun k k1 k2 => hO k (by omega))).trans E4
  show (σ.1 7 ≤ nI j → _) ∧ (¬ σ.1 7 ≤ nI j → _)
  rw [hI, RC.2.1.2.2.1]
  refine pp_c _ (pp_le (by omega) (by omega)) (fun e => ⟨I, ?_⟩) (fun e => s9_laidEnd (RO false) E5 (S := jl_S m ni nh h false) (fun i hi l hl => (congrFun (hO 17 (by omega)) _).trans (S4 i hi l hl)) (by omega) ⟨pp_in (by omega) (by omega), ?_⟩)
  · have e' : j = ni := by omega
    subst e'
    rw [show vp_nar .boolean (1 : Int32) = pp_i true from rfl]
    intro m6 e6
    have E6 : jg_d m6 = jg_d (hh_sA m 11 (nI h) (pp_i true)) := by
      rw [e6]
      refine jg_d_of ?_ (fun k k1 k2 => ?_)
      · show σ.1 2 = _ ∧ σ.1 7 = _ ∧ σ.1 13 = _; rw [hI]; exact ⟨rfl, rfl, rfl⟩
      · by_cases z : k = 11
        · rw [z]
          exact pp_sA_2 (v := 0) (by omega) (fun p hp => (congrFun (hO 11 (by omega)) p).trans (p4 p hp))
        · rw [pp_sA_f z, pp_sA_f z, hO k (by omega), k4 k z (by omega) (by omega) (by omega) (by omega) (by omega)]
    refine s9_joinAll (RO true) E6 ?_
    intro m7 F7 S7 _
    have S7 : jm_S m j (jl_S m j nh h true) m7 := S7
    have E7 := jm_F_d F7 E6
    have s7 : m7.1 = m.1 := by rw [F7.1, e6]; exact hI
    have k7 : ∀ k, k ≠ 11 → k ≠ 17 → k ≠ 18 → k ≠ 19 → k ≠ 20 → k ≠ 25 → k ≠ 27 → m7.2.2.1 k = m.2.2.1 k := fun k k1 k2 k3 k5 k6 k8 k9 => by rw [F7.2 k k2 k3 k8, e6, pp_sA_f k1, hO k k9, k4 k k1 k2 k3 k5 k6 k8]
    have p7 : ∀ p, p ≠ h → hh_a m7 11 p = hh_a m 11 p := by
      intro p hp
      have : hh_a m7 11 p = hh_a m6 11 p := congrFun (F7.2 11 (by omega) (by omega) (by omega)) p
      rw [this, e6, pp_sA_a (by omega), if_neg (fun z => hp z.2)]
      exact (congrFun (hO 11 (by omega)) p).trans (p4 p hp)
    have t7 : ∀ k, k ≠ 11 → k ≠ 17 → k ≠ 18 → k ≠ 25 → k ≠ 27 → m7.2.2.1 k = m4.2.2.1 k := fun k k1 k2 k3 k5 k6 => by rw [F7.2 k k2 k3 k5, e6, pp_sA_f k1, hO k k6]
    have V7 : ∀ i, i < j → hh_a m7 27 i = nI (jg_E m (jl_S m j nh h false) i) := by
      intro i hi
      have : hh_a m7 27 i = hh_a m6 27 i := congrFun (F7.2 27 (by omega) (by omega) (by omega)) i
      rw [this, e6, pp_sA_n (by omega)]
      exact hV i hi
    clear hK K
    refine hh_lp2_i (fun x y τ => ∃ i, i ≤ j ∧ y = nI i ∧ x = jg_bits (fun i => decide (jg_E m (jl_S m j nh h true) i = jg_E m (jl_S m j nh h false) i)) i ∧ m7 = τ) (fun x y τ => j - y.toNatClampNeg) ?_ ⟨0, by omega, rfl, rfl, rfl⟩
    rintro K x y τ ⟨i, hi, rfl, rfl, rfl⟩ hK
    unfold wq_X9_lean_126
    show (m7.1 7 ≤ nI i → _) ∧ (¬ m7.1 7 ≤ nI i → _)
    rw [s7, RC.2.1.2.2.1]
    refine pp_c _ (pp_le (by omega) (by omega)) (fun e2 => ⟨I, ?_⟩) (fun e2 => s9_laidEnd (RO true) E7 S7 (by omega) ⟨pp_in (by omega) (by omega), ?_⟩)
    · have e2' : i = j := by omega
      rw [e2']
      intro m8 e8
      have hv2 : vp_nar .boolean v = v := by
        obtain ⟨-, g2, -⟩ := f3 h hh
        rw [hv]
        rcases g2 with g | g <;> rw [g] <;> rfl
      rw [hv2] at e8
      refine jl_copy (N := 96) (ka := 17) (kb := 19) (X := fun σ => ∃ n : Nat, hh_lp1 (wq_X9_lean_208 (jg_bits (fun i => decide (jg_E m (jl_S m j nh h true) i = jg_E m (jl_S m j nh h false) i)) j) Q) n (0 : Int32) σ) (by omega) (by omega) ?_
      intro m9 a9 b9 g9
      refine jl_copy (N := 480) (ka := 18) (kb := 20) (X := fun σ => Q (jg_bits (fun i => decide (jg_E m (jl_S m j nh h true) i = jg_E m (jl_S m j nh h false) i)) j) σ) (by omega) (by omega) ?_
      intro m10 a10 b10 g10
      refine q m10 ⟨?_, fun k k1 k2 k3 k4 k5 k6 => ?_, fun p hp => ?_, fun p hp => ?_⟩
      · rw [a10, a9, e8]; exact s7
      · rw [b10 k k2, b9 k k1]
        by_cases z : k = 11
        · rw [z]
          funext p
          show hh_a m8 11 p = hh_a m 11 p
          rw [e8, pp_sA_a (by omega)]
          by_cases y : p = h
          · rw [if_pos ⟨rfl, y⟩, hv, y]
          · rw [if_neg (fun w => y w.2)]
            exact p7 p y
        · rw [e8, pp_sA_f z, k7 k z k1 k2 k3 k4 k5 k6]
      · have : hh_a m10 17 p = hh_a m9 17 p := congrFun (b10 17 (by omega)) p
        rw [this, g9 p hp, e8, pp_sA_n (by omega)]
        exact (congrFun (t7 19 (by omega) (by omega) (by omega) (by omega) (by omega)) p).trans (x4 p hp)
      · rw [g10 p hp]
        have : hh_a m9 20 p = hh_a m8 20 p := congrFun (b9 20 (by omega)) p
        rw [this, e8, pp_sA_n (by omega)]
        exact (congrFun (t7 20 (by omega) (by omega) (by omega) (by omega) (by omega)) p).trans (y4 p hp)
    · have mu : j - (nI (i + 1)).toNatClampNeg < j - (nI i).toNatClampNeg := by rw [pp_cl (by omega), pp_cl (by omega)]; omega
      have l1 := jg_E_lt (S := jl_S m j nh h true) RC (show i < j by omega)
      have l2 := jg_E_lt (S := jl_S m j nh h false) RC (show i < j by omega)
      rw [pp_rA (by omega), V7 i (by omega), show nI i + 1 = nI (i + 1) from nI_1 i]
      show (¬ nI (jg_E m (jl_S m j nh h true) i) = _ → _) ∧ (nI (jg_E m (jl_S m j nh h true) i) = _ → _)
      refine pp_nc _ (pp_eq (by omega) (by omega)) (fun w => ?_) (fun w => ?_)
      · rintro v rfl
        exact hK _ _ _ ⟨i + 1, by omega, rfl, by rw [jg_bits, if_neg (by rw [decide_eq_false w]; decide)], rfl⟩ mu
      · rintro v rfl
        exact hK _ _ _ ⟨i + 1, by omega, rfl, by rw [jg_bits, if_pos (decide_eq_true w)]; exact Int32.or_zero, rfl⟩ mu
  · intro σ2 e2
    rw [show nI j + 1 = nI (j + 1) from nI_1 j]
    refine hK _ _ ⟨j + 1, by omega, rfl, by rw [e2]; exact hI, fun k hk => by rw [e2, pp_sA_f hk]; exact hO k hk, fun i hi => ?_⟩ (by rw [pp_cl (by omega), pp_cl (by omega)]; omega)
    rw [e2, pp_sA_a (by omega)]
    by_cases z : i = j
    · rw [if_pos ⟨rfl, z⟩, z]
      rfl
    · rw [if_neg (fun y => z y.2)]
      exact hV i (by omega)
theorem ps_lean (x : Int32) : RR_i (wp_X8_lean x) (wp_X9_lean x) := by
  rintro c m ⟨sn, ns, ni, nh, R1, RC, R7, R8, R9⟩
  have R : RR_s c m := ⟨sn, ns, ni, nh, R1, RC, R7, R8, R9⟩
  obtain ⟨h10, f1, f2, f3⟩ := id RC.2.2.1
  have h24 := RC.2.1.1
  cases e : pp_ix x nh
  · unfold wp_X8_lean
    refine s0_has f1 h10 ?_
    rw [e]
    refine pp_nt rfl ?_
    unfold wp_X9_lean
    refine s9_isHand f2 h10 ?_
    rw [e]
    exact pp_nt rfl ⟨rfl, R⟩
  · obtain ⟨h, hh, rfl⟩ := pp_ix_t e (by omega)
    refine s8_lean RC hh ?_
    intro c' ⟨A1, A2⟩
    refine s9_lean RC hh ?_
    intro m' ⟨B1, B2, B3, B4⟩
    refine ⟨rfl, sn, ns, ni, nh, ?_, ?_, ?_, ?_, ?_⟩
    · exact rr_1_e (c := c) (m := m) (by rw [A1]) (by rw [B1]) (A2 19 (by omega) (by omega)) (B2 1 (by omega) (by omega) (by omega) (by omega) (by omega) (by omega)) R1
    · exact rr_C_m (m := m) (by rw [B1]; exact ⟨rfl, rfl, rfl⟩) (fun k hk => by unfold rr_km at hk; exact B2 k (by omega) (by omega) (by omega) (by omega) (by omega) (by omega)) (rr_C_c (c := c) (by rw [A1]; exact ⟨rfl, rfl, rfl⟩) (fun k hk => by unfold rr_kc at hk; exact A2 k (by omega) (by omega)) RC)
    · exact rr_7_e (c := c) (m := m) (A2 43 (by omega) (by omega)) (A2 44 (by omega) (by omega)) (B2 15 (by omega) (by omega) (by omega) (by omega) (by omega) (by omega)) (B2 16 (by omega) (by omega) (by omega) (by omega) (by omega) (by omega)) R7
    · unfold rr_8
      rw [A1, B1]
      rcases R8 with R8 | ⟨q, ji, jh, a1, a2, a3, a4, a5, a6⟩
      · exact Or.inl R8
      · refine Or.inr ⟨q, ji, jh, a1, a2, a3, a4, a5, fun h hh L t s g1 g2 g3 g4 => ?_⟩
        rw [B4 _ (by omega)]
        exact (congrFun (A2 (79 + h) (by omega) (by omega)) _).trans (a6 h hh L t s g1 g2 g3 g4)
    · intro i hi l L L4 h22 hl
      have h22 : hh_a c 22 i = nI L := (congrFun (A2 22 (by omega) (by omega)) i).symm.trans h22
      have a : hh_a c' (55 + i) l = hh_a c (55 + i) l := congrFun (A2 (55 + i) (by omega) (by omega)) l
      rw [a, R9 i hi l L L4 h22 hl]
      have b : ∀ k, 2 ≤ k → k ≤ 14 → m'.2.2.1 k = m.2.2.1 k := fun k k1 k2 => B2 k (by omega) (by omega) (by omega) (by omega) (by omega) (by omega)
      unfold mm_sh mm_fix mm_lb
      rw [B3 _ (by omega), B1]
      unfold hh_a
      rw [b 3 (by omega) (by omega), b 6 (by omega) (by omega), b 8 (by omega) (by omega), b 9 (by omega) (by omega)]
