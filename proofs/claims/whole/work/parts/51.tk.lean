theorem ft_cpy {f g : Nat → Int32} {k : Nat} (hk : k < 8) : va_cpy f g ((0 : Int32)).toNatClampNeg ((0 : Int32)).toNatClampNeg ((8 : Int32)).toNatClampNeg k = f k := by
  show (if 0 ≤ k ∧ k < 0 + 8 then f (0 + (k - 0)) else g k) = f k
  rw [if_pos ⟨Nat.zero_le _, by omega⟩]
  congr 1
  omega
theorem s6_copy {σ : hh_S} {Q : hh_S → Prop} (q : ∀ c' : hh_S, (∀ k, k ≠ 128 → c'.1 k = σ.1 k) → c'.1 128 = σ.1 192 → (∀ k, k < 11 ∨ 14 < k → c'.2.2.1 k = σ.2.2.1 k) → (∀ k, k < 8 → hh_a c' 11 k = hh_a σ 15 k ∧ hh_a c' 12 k = hh_a σ 16 k ∧ hh_a c' 13 k = hh_a σ 17 k ∧ hh_a c' 14 k = hh_a σ 18 k) → Q c') : wp_X6_copy σ Q := by
  unfold wp_X6_copy
  intro c1 e1 c2 e2 c3 e3 c4 e4 c5 e5
  refine q c5 ?_ ?_ ?_ ?_
  · intro k hk
    rw [e5, e4, e3, e2, e1]
    show (if k = 128 then _ else σ.1 k) = _
    rw [if_neg hk]
  · rw [e5, e4, e3, e2, e1]
    rfl
  · intro k hk
    rw [e5]
    show (if k = 14 then _ else c4.2.2.1 k) = _
    rw [if_neg (by omega), e4]
    show (if k = 13 then _ else c3.2.2.1 k) = _
    rw [if_neg (by omega), e3]
    show (if k = 12 then _ else c2.2.2.1 k) = _
    rw [if_neg (by omega), e2]
    show (if k = 11 then _ else c1.2.2.1 k) = _
    rw [if_neg (by omega), e1]
    rfl
  · intro k hk
    have a11 : hh_a c5 11 k = hh_a σ 15 k := by
      rw [e5, e4, e3]
      show hh_a c2 11 k = _
      rw [e2]
      show va_cpy _ _ _ _ _ k = _
      rw [ft_cpy hk, e1]
      rfl
    have a12 : hh_a c5 12 k = hh_a σ 16 k := by
      rw [e5, e4]
      show hh_a c3 12 k = _
      rw [e3]
      show va_cpy _ _ _ _ _ k = _
      rw [ft_cpy hk, e2, e1]
      rfl
    have a13 : hh_a c5 13 k = hh_a σ 17 k := by
      rw [e5]
      show hh_a c4 13 k = _
      rw [e4]
      show va_cpy _ _ _ _ _ k = _
      rw [ft_cpy hk, e3, e2, e1]
      rfl
    have a14 : hh_a c5 14 k = hh_a σ 18 k := by
      rw [e5]
      show va_cpy _ _ _ _ _ k = _
      rw [ft_cpy hk, e4, e3, e2, e1]
      rfl
    exact ⟨a11, a12, a13, a14⟩
theorem s9_task {ns : Nat} {τ : hh_S} {Q : Int32 → hh_S → Prop} (hns : ns ≤ 8) (h2 : τ.1 2 = nI ns) (q : ∀ m' : hh_S, (∀ k, k ≠ 0 → k ≠ 7 → k ≠ 13 → k ≠ 20 → k ≠ 21 → k ≠ 22 → m'.1 k = τ.1 k) → m'.1 0 = 0 → m'.1 7 = 0 → m'.1 13 = 0 → m'.1 20 = 0 → (∀ k, k < 2 ∨ 5 < k → m'.2.2.1 k = τ.2.2.1 k) → (∀ k, k < ns → hh_a m' 2 k = hh_a τ 21 k ∧ hh_a m' 3 k = hh_a τ 22 k ∧ hh_a m' 4 k = hh_a τ 23 k ∧ hh_a m' 5 k = hh_a τ 24 k) → Q (nI ns) m') : ∃ n : Nat, hh_lp1 (wq_X9_task_20 Q) n (0 : Int32) τ := by
  refine hh_lp1_i (fun x σ => ∃ j, j ≤ ns ∧ x = nI j ∧ σ.1 = τ.1 ∧ (∀ k, k < 2 ∨ 5 < k → σ.2.2.1 k = τ.2.2.1 k) ∧ (∀ k, k < j → hh_a σ 2 k = hh_a τ 21 k ∧ hh_a σ 3 k = hh_a τ 22 k ∧ hh_a σ 4 k = hh_a τ 23 k ∧ hh_a σ 5 k = hh_a τ 24 k)) (fun x σ => ns - x.toNatClampNeg) ?_ ⟨0, by omega, rfl, rfl, fun _ _ => rfl, fun k hk => absurd hk (Nat.not_lt_zero k)⟩
  rintro K x σ ⟨j, hj, rfl, hI, hO, hV⟩ hK
  unfold wq_X9_task_20
  show (σ.1 2 ≤ nI j → _) ∧ (¬ σ.1 2 ≤ nI j → _)
  rw [hI, h2]
  refine pp_c _ (pp_le (by omega) (by omega)) (fun e => ?_) (fun e => ?_)
  · have e : j = ns := by omega
    subst e
    rintro s2 rfl s3 rfl s4 rfl s5 rfl s6 rfl s7 e7
    show Q (s7.1 2) s7
    have a2 : s7.1 2 = nI j := by rw [e7]; show σ.1 2 = _; rw [hI, h2]
    rw [a2]
    refine q s7 ?_ (by rw [e7]; rfl) (by rw [e7]; rfl) (by rw [e7]; rfl) (by rw [e7]; rfl) (fun k hk => by rw [e7]; exact hO k hk) (fun k hk => by rw [e7]; exact hV k hk)
    intro k k1 k2 k3 k4 k5 k6
    rw [e7]
    show (if k = 22 then _ else if k = 21 then _ else if k = 20 then _ else if k = 0 then _ else if k = 13 then _ else if k = 7 then _ else σ.1 k) = _
    rw [if_neg k6, if_neg k5, if_neg k4, if_neg k1, if_neg k3, if_neg k2, hI]
  · have I : vp_in (nI j) 8 := pp_in (by omega) (by omega)
    refine ⟨I, I, ?_⟩
    intro s1 e1
    refine ⟨I, I, ?_⟩
    intro s2 e2
    refine ⟨I, I, ?_⟩
    intro s3 e3
    refine ⟨I, I, ?_⟩
    intro s4 e4
    rw [pp_rA (by omega)] at e1 e2 e3 e4
    rw [show nI j + 1 = nI (j + 1) from nI_1 j]
    refine hK _ _ ⟨j + 1, by omega, rfl, by rw [e4, e3, e2, e1]; exact hI, fun k hk => ?_, fun k hk => ?_⟩ (by rw [pp_cl (by omega), pp_cl (by omega)]; omega)
    · rw [e4, pp_sA_f (by omega), e3, pp_sA_f (by omega), e2, pp_sA_f (by omega), e1, pp_sA_f (by omega)]
      exact hO k hk
    · by_cases z : k = j
      · subst z
        have b1 : ∀ a, 5 < a → hh_a s1 a k = hh_a τ a k := fun a ha => by rw [e1, pp_sA_n (by omega)]; exact congrFun (hO a (by omega)) k
        have b2 : ∀ a, 5 < a → hh_a s2 a k = hh_a τ a k := fun a ha => by rw [e2, pp_sA_n (by omega)]; exact b1 a ha
        have b3 : ∀ a, 5 < a → hh_a s3 a k = hh_a τ a k := fun a ha => by rw [e3, pp_sA_n (by omega)]; exact b2 a ha
        refine ⟨?_, ?_, ?_, ?_⟩
        · rw [e4, pp_sA_n (by omega), e3, pp_sA_n (by omega), e2, pp_sA_n (by omega), e1, pp_sA_a (by omega), if_pos ⟨rfl, rfl⟩]
          exact congrFun (hO 21 (by omega)) k
        · rw [e4, pp_sA_n (by omega), e3, pp_sA_n (by omega), e2, pp_sA_a (by omega), if_pos ⟨rfl, rfl⟩]
          exact b1 22 (by omega)
        · rw [e4, pp_sA_n (by omega), e3, pp_sA_a (by omega), if_pos ⟨rfl, rfl⟩]
          exact b2 23 (by omega)
        · rw [e4, pp_sA_a (by omega), if_pos ⟨rfl, rfl⟩]
          exact b3 24 (by omega)
      · have b : ∀ a, hh_a s4 a k = hh_a σ a k := fun a => by
          rw [e4, pp_sA_a (by omega), if_neg (fun y => z y.2), e3, pp_sA_a (by omega), if_neg (fun y => z y.2), e2, pp_sA_a (by omega), if_neg (fun y => z y.2), e1, pp_sA_a (by omega), if_neg (fun y => z y.2)]
        rw [b, b, b, b]
        exact hV k (by omega)
theorem ps_task : RR_i wp_X8_task wp_X9_task := by
  rintro c m ⟨sn, ns, ni, nh, R1, RC, R7, R8, R9⟩
  unfold wp_X8_task
  refine s7_read R1 ?_
  intro x c' FC q
  have h10 := RC.2.2.1.1
  have h24 := RC.2.1.1
  have cs : ∀ k, k ≠ 192 → k ≠ 67 → k ≠ 68 → k ≠ 69 → k ≠ 70 → c'.1 k = c.1 k := FC.1
  have ca : ∀ k, k < 15 ∨ 18 < k → c'.2.2.1 k = c.2.2.1 k := fun k hk => FC.2 k (by omega) (by omega) (by omega) (by omega)
  refine ⟨fun w => ?_, fun w => ?_⟩
  · refine s6_copy ?_
    intro c2 a1 a2 a3 a4 c3 e3 c4 e4 c5 e5 c6 e6
    show wp_X9_task m (fun r' m' => c6.1 128 = r' ∧ RR_s c6 m')
    have b128 : c6.1 128 = c'.1 192 := by rw [e6, e5, e4, e3]; exact a2
    have bs : ∀ k, k ≠ 128 → k ≠ 64 → k ≠ 256 → k ≠ 320 → k ≠ 9 → c6.1 k = c'.1 k := by
      intro k k1 k2 k3 k4 k5
      rw [e6, e5, e4, e3]
      show (if k = 9 then _ else if k = 320 then _ else if k = 256 then _ else if k = 64 then _ else c2.1 k) = _
      rw [if_neg k5, if_neg k4, if_neg k3, if_neg k2, a1 k k1]
    have b64 : c6.1 64 = 0 := by rw [e6, e5, e4, e3]; rfl
    have b256 : c6.1 256 = 0 := by rw [e6, e5, e4]; rfl
    have b320 : c6.1 320 = 0 := by rw [e6, e5]; rfl
    have b9 : c6.1 9 = -1 := by rw [e6]; rfl
    have bA : c6.2.2.1 = c2.2.2.1 := by rw [e6, e5, e4, e3]; rfl
    unfold wp_X9_task
    refine q _ ?_
    intro m' FM h6 _
    have ma : ∀ k, k < 21 ∨ 24 < k → m'.2.2.1 k = m.2.2.1 k := fun k hk => FM.2 k (by omega) (by omega) (by omega) (by omega)
    obtain ⟨n, n1, n8, d1, d2, D⟩ := h6 w
    refine pp_t (by rw [w]; decide) ?_
    intro m2 f2
    have g2 : m2.1 2 = nI n := by rw [f2]; exact d2
    refine s9_task n8 g2 ?_
    intro m3 g3 g0 g7 g13 g20 gA gV
    have mA : ∀ k, k < 2 ∨ (5 < k ∧ k < 21) ∨ 24 < k → m3.2.2.1 k = m.2.2.1 k := fun k hk => by rw [gA k (by omega), f2]; exact ma k (by omega)
    have cA : ∀ k, k < 11 ∨ 18 < k → c6.2.2.1 k = c.2.2.1 k := fun k hk => by rw [bA, a3 k (by omega)]; exact ca k (by omega)
    refine ⟨by rw [b128]; exact d1, 0, n, 0, 0, ⟨by omega, b64, g0, fun k hk => absurd hk (Nat.not_lt_zero k)⟩, ⟨⟨n8, by rw [b128]; exact d1, (g3 2 (by omega) (by omega) (by omega) (by omega) (by omega) (by omega)).trans g2, fun k hk => ?_⟩, ⟨by omega, b256, g7, fun k hk => absurd hk (Nat.not_lt_zero k)⟩, ⟨by omega, b320, g13, fun k hk => absurd hk (Nat.not_lt_zero k)⟩, fun k hk => absurd hk (Nat.not_lt_zero k), fun k hk => ?_⟩, ?_, Or.inl ⟨g20, b9⟩, fun k hk => absurd hk (Nat.not_lt_zero k)⟩
    · obtain ⟨v1, v2, v3, v4⟩ := a4 k (by omega)
      obtain ⟨u1, u2, u3, u4⟩ := gV k hk
      obtain ⟨D1, D2, D3, D4, ⟨L, L2, L4, hL⟩, -⟩ := D k hk
      have r : ∀ a, hh_a c6 a k = hh_a c2 a k := fun a => by unfold hh_a; rw [bA]
      have t : ∀ a, hh_a m2 a k = hh_a m' a k := fun a => by rw [f2]; rfl
      rw [r, r, r, r, v1, v2, v3, v4, u1, u2, u3, u4, t, t, t, t]
      exact ⟨D1, D2, D3, D4, L, L2, L4, D2.symm.trans hL⟩
    · have r := RC.2.2.2.2 k hk
      have e1 : hh_a c6 29 k = hh_a c 29 k := congrFun (cA 29 (by omega)) k
      have e2 : hh_a m3 14 k = hh_a m 14 k := congrFun (mA 14 (by omega)) k
      rw [e1, e2]
      exact r
    · exact rr_7_e (c := c) (m := m) (cA 43 (by omega)) (cA 44 (by omega)) (mA 15 (by omega)) (mA 16 (by omega)) R7
  · unfold wp_X9_task
    refine q _ ?_
    intro m' FM _ hn
    have ma : ∀ k, k < 21 ∨ 24 < k → m'.2.2.1 k = m.2.2.1 k := fun k hk => FM.2 k (by omega) (by omega) (by omega) (by omega)
    refine pp_f (hn w) ⟨rfl, sn, ns, ni, nh, ?_, ?_, ?_, ?_, ?_⟩
    · exact rr_1_e (c := c) (m := m) (cs 64 (by omega) (by omega) (by omega) (by omega) (by omega)) (FM.1 0 (by omega)) (ca 19 (by omega)) (ma 1 (by omega)) R1
    · exact rr_C_m (m := m) ⟨FM.1 2 (by omega), FM.1 7 (by omega), FM.1 13 (by omega)⟩ (fun k hk => by unfold rr_km at hk; exact ma k (by omega)) (rr_C_c (c := c) ⟨cs 128 (by omega) (by omega) (by omega) (by omega) (by omega), cs 256 (by omega) (by omega) (by omega) (by omega) (by omega), cs 320 (by omega) (by omega) (by omega) (by omega) (by omega)⟩ (fun k hk => by unfold rr_kc at hk; exact ca k (by omega)) RC)
    · exact rr_7_e (c := c) (m := m) (ca 43 (by omega)) (ca 44 (by omega)) (ma 15 (by omega)) (ma 16 (by omega)) R7
    · exact rr_8_e (c := c) (m := m) (cs 9 (by omega) (by omega) (by omega) (by omega) (by omega)) (FM.1 20 (by omega)) (FM.1 21 (by omega)) (FM.1 22 (by omega)) (ma 18 (by omega)) (fun h hh => ca (79 + h) (by omega)) h10 R8
    · exact rr_9_e (c := c) (m := m) h24 (FM.1 20 (by omega)) (FM.1 21 (by omega)) (ma 3 (by omega)) (ma 6 (by omega)) (ma 8 (by omega)) (ma 9 (by omega)) (ma 17 (by omega)) (ca 22 (by omega)) (fun i hi => ca (55 + i) (by omega)) R9
