/-! ===== a JOINING, in the model: TURNS ===== -/
theorem s9_turnShares {ns ni nh : Nat} {T : Nat → Nat → Nat → Nat → Nat} {S : Nat → Nat → Nat} {c m d : hh_S} {Q : Int32 → hh_S → Prop} (R : rr_C ns ni nh c d) (E : jg_d m = d) (HT : jm_T nh T m) (TB : jg_TB T) (B : jg_B d ni S) (HS : jm_S d ni S m) (q : ∀ m' : hh_S, jm_F m m' → m'.2.2.1 18 = m.2.2.1 18 → jm_S d ni (jg_x d T S nh) m' → Q (nI (jg_z d T S nh ni)) m') : wp_X9_turnShares m Q := by
  have h24 := R.2.1.1
  have h10 := R.2.2.1.1
  have t18 : ∀ σ : hh_S, σ.2.2.1 18 = m.2.2.1 18 → jm_T nh T σ := fun σ e h hh L t s q1 q2 q3 q4 => (congrFun e _).trans (HT h hh L t s q1 q2 q3 q4)
  unfold wp_X9_turnShares
  refine hh_lp2_i (fun x y σ => ∃ j, j ≤ ni ∧ y = nI j ∧ x = nI (jg_z d T S nh j) ∧ jm_F m σ ∧ σ.2.2.1 18 = m.2.2.1 18 ∧ (∀ i, i < ni → ∀ l, l < mm_L d i → hh_a σ 17 (4 * i + l) = if i < j then nI (jg_x d T S nh i l) else nI (S i l))) (fun x y σ => ni - y.toNatClampNeg) ?_ ⟨0, by omega, rfl, rfl, jm_F_r m, rfl, fun i hi l hl => by rw [if_neg (by omega)]; exact HS i hi l hl⟩
  rintro K x y σ ⟨j, hj, rfl, rfl, F, F18, hV⟩ hK
  have E1 := jm_F_d F E
  unfold wq_X9_turnShares_4
  show (σ.1 7 ≤ nI j → _) ∧ (¬ σ.1 7 ≤ nI j → _)
  rw [(jg_d_s E1).2.1, R.2.1.2.2.1]
  refine pp_c _ (pp_le (by omega) (by omega)) (fun e => ?_) (fun e => s9_labelsD R E1 (by omega) (s9_fixedD E1 (by omega) ?_))
  · have e : j = ni := by omega
    subst e
    exact q σ F F18 (fun i hi l hl => by rw [hV i hi l hl, if_pos hi])
  · have mu : ni - (nI (j + 1)).toNatClampNeg < ni - (nI j).toNatClampNeg := by rw [pp_cl (by omega), pp_cl (by omega)]; omega
    have stay : jg_f d nh j = false → K (nI (jg_z d T S nh j)) (nI j + 1) σ := by
      intro w
      rw [show nI j + 1 = nI (j + 1) from nI_1 j]
      refine hK _ _ _ ⟨j + 1, by omega, rfl, by rw [jg_z, if_neg (by rw [w]; decide)], F, F18, fun i hi l hl => ?_⟩ mu
      rw [hV i hi l hl]
      by_cases z : i = j
      · rw [if_neg (by omega), if_pos (by omega), jg_x, z, if_neg (by rw [w]; decide)]
      · by_cases z2 : i < j
        · rw [if_pos z2, if_pos (by omega)]
        · rw [if_neg z2, if_neg (by omega)]
    have hn : jg_n d nh j ≤ 10 := by have := fb_ct_le (fun h => mm_cnt d h j) nh; unfold jg_n; omega
    obtain ⟨L, L2, L4, hL, -⟩ := rr_lb R (show j < ni by omega)
    rw [hL]
    refine pp_c (¬ mm_fix d j < 0) pp_nlt.symm (fun w => stay (by unfold jg_f; rw [decide_eq_false w, Bool.false_and])) (fun w => s9_countN R E1 (by omega) ?_)
    have w := Classical.not_not.mp w
    rw [show (0 : Int32) = nI 0 from rfl]
    refine pp_c _ (pp_le (by omega) (by omega)) (fun w2 => stay (by unfold jg_f; rw [decide_eq_false (p := 0 < jg_n d nh j) (by omega), Bool.and_false])) (fun w2 => ?_)
    have hf : jg_f d nh j = true := by unfold jg_f; rw [decide_eq_true w, decide_eq_true (p := 0 < jg_n d nh j) (by omega)]; rfl
    have zb := jg_z_b (T := T) (nh := nh) B j (by omega)
    have zs : jg_z d T S nh (j + 1) = jg_y (jg_o d T j nh) (S j) (jg_z d T S nh j) L := by rw [jg_z, if_pos hf, hL]
    generalize jg_z d T S nh j = Z at *
    -- the SHARES as they stand while this ITEM is weighed
    have F17 : σ.2.2.1 17 = σ.2.2.1 17 := rfl
    refine hh_lp1_i (fun x τ => ∃ l, l ≤ L ∧ x = nI l ∧ jm_F m τ ∧ τ.2.2.1 18 = m.2.2.1 18 ∧ τ.2.2.1 17 = σ.2.2.1 17 ∧ (∀ k, k < l → hh_a τ 25 k = nI (1000000 / L))) (fun x τ => L - x.toNatClampNeg) ?_ ⟨0, by omega, rfl, F, F18, F17, fun i hi => absurd hi (Nat.not_lt_zero i)⟩
    rintro K2 x τ ⟨l, hl, rfl, G, G18, G17, hW⟩ hK2
    unfold wq_X9_turnShares_37
    refine pp_c _ (pp_le (by omega) (by omega)) (fun e2 => ?_) (fun e2 => ⟨nI_ne0 (by omega) (by omega), pp_in (by omega) (by omega), ?_⟩)
    · have e2' : l = L := by omega
      rw [e2'] at hW
      clear hK2 K2 e2 e2' hl l
      refine hh_lp1_i (fun x τ => ∃ h, h ≤ nh ∧ x = nI h ∧ jm_F m τ ∧ τ.2.2.1 18 = m.2.2.1 18 ∧ τ.2.2.1 17 = σ.2.2.1 17 ∧ (∀ l, l < L → hh_a τ 25 l = nI (jg_o d T j h l))) (fun x τ => nh - x.toNatClampNeg) ?_ ⟨0, by omega, rfl, G, G18, G17, fun l hl => by rw [hW l hl]; unfold jg_o; rw [hL]⟩
      clear G G18 G17 hW τ
      rintro K2 x τ ⟨h, hh, rfl, G, G18, G17, hW⟩ hK2
      have E2 := jm_F_d G E
      unfold wq_X9_turnShares_63
      show (τ.1 13 ≤ nI h → _) ∧ (¬ τ.1 13 ≤ nI h → _)
      rw [(jg_d_s E2).2.2, R.2.2.1.2.2.1]
      refine pp_c _ (pp_le (by omega) (by omega)) (fun e3 => ?_) (fun e3 => s9_countsD E2 (by omega) (by omega) ?_)
      · have e3' : h = nh := by omega
        rw [e3'] at hW
        clear hK2 K2 e3 e3' hh h
        have ob : ∀ l, l < L → jg_o d T j nh l ≤ 1000000 := fun l hl => jg_o_b nh l (by rw [hL]; exact hl)
        generalize hO : jg_o d T j nh = o at *
        refine hh_lp2_i (fun x y τ => ∃ l, l ≤ L ∧ y = nI l ∧ x = nI (jg_y o (S j) Z l) ∧ jm_F m τ ∧ τ.2.2.1 18 = m.2.2.1 18 ∧ (∀ l, l < L → hh_a τ 25 l = nI (o l)) ∧ (∀ i, i < ni → ∀ l', l' < mm_L d i → hh_a τ 17 (4 * i + l') = if i = j ∧ l' < l then nI (o l') else hh_a σ 17 (4 * i + l'))) (fun x y τ => L - y.toNatClampNeg) ?_ ⟨0, by omega, rfl, rfl, G, G18, hW, fun i hi l' hl' => by rw [if_neg (by omega)]; exact congrFun G17 _⟩
        clear G G18 G17 hW E2 τ
        rintro K2 x y τ ⟨l, hl, rfl, rfl, G, G18, hW, hX⟩ hK2
        unfold wq_X9_turnShares_217
        have yb := jg_y_b zb l (fun l' hl' => ob l' (by omega)) (fun l' hl' => B j (by omega) l' (by omega))
        refine pp_c _ (pp_le (by omega) (by omega)) (fun e4 => ?_) (fun e4 => ⟨pp_in (by omega) (by omega), ?_⟩)
        · have e4 : l = L := by omega
          subst e4
          rw [show nI j + 1 = nI (j + 1) from nI_1 j]
          refine hK _ _ _ ⟨j + 1, by omega, rfl, by rw [zs], G, G18, fun i hi l' hl' => ?_⟩ mu
          rw [hX i hi l' hl']
          by_cases z : i = j
          · subst z
            rw [if_pos ⟨rfl, by omega⟩, if_pos (by omega), jg_x, if_pos hf, hO]
          · rw [if_neg (fun y => z y.1), hV i hi l' hl']
            by_cases z2 : i < j
            · rw [if_pos z2, if_pos (by omega)]
            · rw [if_neg z2, if_neg (by omega)]
        · have sv : hh_a τ 17 (4 * j + l) = nI (S j l) := by rw [hX j (by omega) l (by omega), if_neg (by omega), hV j (by omega) l (by omega), if_neg (by omega)]
          have sb := B j (by omega) l (by omega)
          have ob1 := ob l (by omega)
          have kb := jg_k_b ob1 sb
          have mu2 : L - (nI (l + 1)).toNatClampNeg < L - (nI l).toNatClampNeg := by rw [pp_cl (by omega), pp_cl (by omega)]; omega
          rw [show (4 : Int32) = nI 4 from rfl, pp_idx, pp_rA (by omega), pp_rA (by omega), sv, hW l (by omega)]
          have I : vp_in (nI (4 * j + l)) 96 := pp_in (by omega) (by omega)
          have I4 : vp_in (nI l) 4 := pp_in (by omega) (by omega)
          have go : ∀ τ2 : hh_S, τ2 = hh_sA τ 17 (nI (4 * j + l)) (nI (o l)) → K2 (nI (jg_y o (S j) Z (l + 1))) (nI l + 1) τ2 := by
            intro τ2 e5
            rw [show nI l + 1 = nI (l + 1) from nI_1 l]
            refine hK2 _ _ _ ⟨l + 1, by omega, rfl, rfl, ⟨by rw [e5]; exact G.1, fun k k1 k2 k3 => by rw [e5, pp_sA_f k1]; exact G.2 k k1 k2 k3⟩, by rw [e5, pp_sA_f (by omega)]; exact G18, fun l' hl' => by rw [e5, pp_sA_n (by omega)]; exact hW l' hl', fun i hi l' hl' => ?_⟩ mu2
            have l4 : l' < 4 := by
              obtain ⟨L', -, L4', hL', -⟩ := rr_lb R hi
              omega
            rw [e5, pp_sA_a (by omega)]
            by_cases z : i = j ∧ l' = l
            · rw [if_pos ⟨rfl, by omega⟩, if_pos (by omega), z.2]
            · rw [if_neg (fun y => z (by omega)), hX i hi l' hl']
              by_cases z2 : i = j ∧ l' < l
              · rw [if_pos z2, if_pos (by omega)]
              · rw [if_neg z2, if_neg (by omega)]
          have ys : jg_y o (S j) Z (l + 1) = if jg_y o (S j) Z l < jg_k (o l) (S j l) then jg_k (o l) (S j l) else jg_y o (S j) Z l := by rw [jg_y]
          have fin : ∀ v : Int32, v = nI (jg_k (o l) (S j l)) → ((v ≤ nI (jg_y o (S j) Z l) → (vp_in (nI l) 4 ∧ (vp_in (nI (4 * j + l)) 96 ∧ ∀ σ11 : hh_S, σ11 = hh_sA τ 17 (nI (4 * j + l)) (nI (o l)) → (K2 (nI (jg_y o (S j) Z l)) (nI l + 1) σ11)))) ∧ (¬ v ≤ nI (jg_y o (S j) Z l) → (vp_in (nI l) 4 ∧ (vp_in (nI (4 * j + l)) 96 ∧ ∀ σ14 : hh_S, σ14 = hh_sA τ 17 (nI (4 * j + l)) (nI (o l)) → (K2 v (nI l + 1) σ14))))) := by
            rintro v rfl
            refine pp_c _ (pp_le (by omega) (by omega)) (fun w3 => ⟨I4, I, fun τ2 e5 => ?_⟩) (fun w3 => ⟨I4, I, fun τ2 e5 => ?_⟩)
            · have := go τ2 e5
              rw [ys, if_neg (by omega)] at this
              exact this
            · have := go τ2 e5
              rw [ys, if_pos (by omega)] at this
              exact this
          refine ⟨I, pp_c _ (pp_le (by omega) (by omega)) (fun w3 => ⟨I4, I, ?_⟩) (fun w3 => ⟨I, I4, ?_⟩)⟩
          · rw [pk_sub w3]
            intro v hv
            refine fin v ?_
            rw [hv, jg_k, if_neg (by omega)]
          · rw [pk_sub (show o l ≤ S j l by omega)]
            intro v hv
            refine fin v ?_
            rw [hv, jg_k, if_pos (by omega)]
      · have mu2 : nh - (nI (h + 1)).toNatClampNeg < nh - (nI h).toNatClampNeg := by rw [pp_cl (by omega), pp_cl (by omega)]; omega
        have os : ∀ b : Bool, mm_cnt d h j = b → jg_o d T j (h + 1) = if b = true then jg_w (fun l => T h L l (jg_a d h j)) L (jg_o d T j h) else jg_o d T j h := by
          rintro b rfl
          rw [jg_o, hL]
        refine pp_bz (fun w3 => ?_) (fun w3 => ⟨?_, ?_⟩)
        · rw [show nI h + 1 = nI (h + 1) from nI_1 h]
          refine hK2 _ _ ⟨h + 1, by omega, rfl, G, G18, G17, fun l hl => ?_⟩ mu2
          rw [hW l hl, os _ w3, if_neg (by decide)]
        · rw [show (24 : Int32) = nI 24 from rfl, pp_idx]
          exact pp_in (by omega) (by omega)
        · obtain ⟨a1, a2, a3, a4⟩ := jg_an R (show h < nh by omega) (show j < ni by omega) w3
          rw [hL] at a1
          rw [show (24 : Int32) = nI 24 from rfl, pp_idx, pp_rA (by omega), jm_a E2 (by omega), a2, nI_pred]
          rintro v rfl
          have os := os _ w3
          rw [if_pos rfl] at os
          have HT2 := t18 τ G18
          generalize hA : jg_a d h j = a at *
          have ob : ∀ l, l < L → jg_o d T j h l ≤ 1000000 := fun l hl => jg_o_b h l (by rw [hL]; exact hl)
          generalize jg_o d T j h = o at *
          have tv : ∀ t, t < L → hh_a τ 18 (48 * h + 16 * (L - 2) + 4 * t + a) = nI (T h L t a) := fun t ht => HT2 h (by omega) L t a L2 L4 ht a1
          have tb : ∀ t, t < L → T h L t a ≤ 1000 := fun t ht => TB _ _ _ _ ht a1
          have ub : ∀ k, k ≤ L → fb_sm (fun k => o k * T h L k a) k ≤ 4000000000 := fun k hk => jg_all_b ob tb hk L4
          have hw := ub L (Nat.le_refl _)
          refine hh_lp2_i (fun x y ρ => ∃ l, l ≤ L ∧ y = nI l ∧ x = lN (fb_sm (fun k => o k * T h L k a) l) ∧ τ = ρ) (fun x y ρ => L - y.toNatClampNeg) ?_ ⟨0, by omega, rfl, rfl, rfl⟩
          rintro K3 x y ρ ⟨l, hl, rfl, rfl, rfl⟩ hK3
          unfold wq_X9_turnShares_104
          refine pp_c _ (pp_le (by omega) (by omega)) (fun e4 => ?_) (fun e4 => ⟨pp_in (by omega) (by omega), s9_at L2 ⟨pp_in (by omega) (by omega), ?_⟩⟩)
          · have e4' : l = L := by omega
            rw [e4']
            clear hK3 K3 e4 e4' hl l
            refine hh_lp1_i (fun x ρ => ∃ l, l ≤ L ∧ x = nI l ∧ jm_F m ρ ∧ ρ.2.2.1 18 = m.2.2.1 18 ∧ ρ.2.2.1 17 = σ.2.2.1 17 ∧ (∀ k, k < L → hh_a ρ 25 k = if k < l then nI (jg_w (fun l => T h L l a) L o k) else nI (o k))) (fun x ρ => L - x.toNatClampNeg) ?_ ⟨0, by omega, rfl, G, G18, G17, fun k hk => by rw [if_neg (by omega)]; exact hW k hk⟩
            clear G G18 G17 hW HT2 tv E2 τ
            rintro K3 x ρ ⟨l, hl, rfl, G, G18, G17, hW⟩ hK3
            unfold wq_X9_turnShares_149
            have E2 := jm_F_d G E
            refine pp_c _ (pp_le (by omega) (by omega)) (fun e4 => ?_) (fun e4 => ?_)
            · rw [show nI h + 1 = nI (h + 1) from nI_1 h]
              refine hK2 _ _ ⟨h + 1, by omega, rfl, G, G18, G17, fun k hk => ?_⟩ mu2
              rw [hW k hk, if_pos (by omega), os]
            · refine pp_c _ ((lg_cmp_le _ _).trans (pk_lLE (b := 0) (by omega) (by omega))) (fun w4 => ?_) (fun w4 => ⟨pp_in (by omega) (by omega), s9_at L2 ⟨pp_in (by omega) (by omega), fun z => by have := (pk_lEQ (b := 0) (by omega) (by omega)).mp z; omega, pp_in (by omega) (by omega), ?_⟩⟩)
              · rw [show nI h + 1 = nI (h + 1) from nI_1 h]
                have same : ∀ k, jg_w (fun l => T h L l a) L o k = o k := fun k => if_pos (by show fb_sm (fun k => o k * T h L k a) L = 0; omega)
                refine hK2 _ _ ⟨h + 1, by omega, rfl, G, G18, G17, fun k hk => ?_⟩ mu2
                rw [hW k hk, os, same]
                split <;> rfl
              · have tv1 := (t18 ρ G18) h (by omega) L l a L2 L4 (by omega) a1
                have m1 : o l * T h L l a ≤ 1000000 * 1000 := Nat.mul_le_mul (ob l (by omega)) (tb l (by omega))
                have o1 := ob l (by omega)
                have t1 := tb l (by omega)
                rw [pp_rA (by omega), pp_rA (by omega), tv1, hW l (by omega), if_neg (by omega), nI_I (by omega), nI_I (by omega), lN_mul, show (1000000 : Int64) = lN 1000000 from rfl, lN_mul, pk_lDiv (by omega) (by omega) (by omega), lN_i]
                intro ρ2 e5
                rw [show nI l + 1 = nI (l + 1) from nI_1 l]
                refine hK3 _ _ ⟨l + 1, by omega, rfl, ⟨by rw [e5]; exact G.1, fun k k1 k2 k3 => by rw [e5, pp_sA_f k3]; exact G.2 k k1 k2 k3⟩, by rw [e5, pp_sA_f (by omega)]; exact G18, by rw [e5, pp_sA_f (by omega)]; exact G17, fun k hk => ?_⟩ (by rw [pp_cl (by omega), pp_cl (by omega)]; omega)
                rw [e5, pp_sA_a (by omega)]
                by_cases z : k = l
                · rw [if_pos ⟨rfl, z⟩, if_pos (by omega), z, jg_w, if_neg (by omega)]
                · rw [if_neg (fun y => z y.2), hW k hk]
                  by_cases z2 : k < l
                  · rw [if_pos z2, if_pos (by omega)]
                  · rw [if_neg z2, if_neg (by omega)]
          · have o1 := ob l (by omega)
            have t1 := tb l (by omega)
            rw [pp_rA (by omega), pp_rA (by omega), tv l (by omega), hW l (by omega), nI_I (by omega), nI_I (by omega), lN_mul, lN_add, show nI l + 1 = nI (l + 1) from nI_1 l]
            rintro v rfl
            exact hK3 _ _ _ ⟨l + 1, by omega, rfl, rfl, rfl⟩ (by rw [pp_cl (by omega), pp_cl (by omega)]; omega)
    · intro τ2 e5
      rw [show (1000000 : Int32) = nI 1000000 from rfl, pk_div (by omega) (by omega) (by omega)] at e5
      rw [show nI l + 1 = nI (l + 1) from nI_1 l]
      refine hK2 _ _ ⟨l + 1, by omega, rfl, ⟨by rw [e5]; exact G.1, fun k k1 k2 k3 => by rw [e5, pp_sA_f k3]; exact G.2 k k1 k2 k3⟩, by rw [e5, pp_sA_f (by omega)]; exact G18, by rw [e5, pp_sA_f (by omega)]; exact G17, fun k hk => ?_⟩ (by rw [pp_cl (by omega), pp_cl (by omega)]; omega)
      rw [e5, pp_sA_a (by omega)]
      by_cases z : k = l
      · rw [if_pos ⟨rfl, z⟩]
      · rw [if_neg (fun y => z y.2)]
        exact hW k (by omega)
theorem s9_joinAll {ns ni nh : Nat} {c m d : hh_S} {Q : Int32 → hh_S → Prop} (R : rr_C ns ni nh c d) (E : jg_d m = d) (q : ∀ m' : hh_S, jm_F m m' → jm_S d ni (jg_s d ni nh (jg_N d ni nh + 1)) m' → jm_T nh (jg_t d (jg_s d ni nh (jg_N d ni nh)) ni) m' → Q (jg_R d ni nh) m') : wp_X9_joinAll m Q := by
  obtain ⟨-, ⟨nr, n1, n2, n3, n4⟩, ⟨mo, m1, m2, m3, m4, m5⟩⟩ := jg_rules R
  unfold wp_X9_joinAll
  refine s9_beginShares R E ?_
  intro m0 F0 S0
  refine hh_lp2_i (fun x y σ => ∃ k, k ≤ mo ∧ x = nI k ∧ jm_F m σ ∧ jm_S d ni (jg_s d ni nh k) σ ∧ (0 < k → jm_T nh (jg_t d (jg_s d ni nh (k - 1)) ni) σ) ∧ ((y = 0 ∧ ∀ n, n < k → jg_r d ni nh n = false) ∨ (y = 1 ∧ 0 < k ∧ (∀ n, n < k - 1 → jg_r d ni nh n = false) ∧ jg_r d ni nh (k - 1) = true))) (fun x y σ => mo - x.toNatClampNeg) ?_ ⟨0, by omega, rfl, F0, S0, fun h => absurd h (by omega), Or.inl ⟨rfl, fun n hn => absurd hn (Nat.not_lt_zero n)⟩⟩
  clear F0 S0 m0
  rintro K x y σ ⟨k, hk, rfl, F, HS, HT, hr⟩ hK
  have E1 := jm_F_d F E
  unfold wq_X9_joinAll_8
  rcases hr with ⟨rfl, hr⟩ | ⟨rfl, hr0, hr, hr1⟩
  · refine pp_nt rfl ?_
    rw [jc_2, jm_a E1 (by omega), m4]
    have up := jg_first hr (m := jg_m d) (by omega)
    have le : fa_first (jg_r d ni nh) (jg_m d) ≤ jg_m d := fa_first_le _ _
    refine pp_c _ (pp_le (by omega) (by omega)) (fun e => pp_t rfl ?_) (fun e => s9_layTables R E1 (jg_s_b k) HS ?_)
    · have e : k = mo := by omega
      subst e
      have w : ¬ jg_e d ni nh < jg_m d := by unfold jg_e; omega
      have w2 : jg_N d ni nh = k - 1 := by unfold jg_N; rw [if_neg w]; omega
      rw [w2, show k - 1 + 1 = k by omega] at q
      have r := q σ F HS (HT (by omega))
      unfold jg_R at r
      rw [if_neg w, m5] at r
      exact r
    · intro m2' F2 G17 T2
      have S2 : jm_S d ni (jg_s d ni nh k) m2' := fun i hi l hl => (congrFun G17 _).trans (HS i hi l hl)
      refine s9_turnShares R (jm_F_d F2 E1) T2 (fun h L t s q1 q2 => jg_t_b R (jg_s_b k) q1 q2) (jg_s_b k) S2 ?_
      intro m3' F3 G18 S3
      have F' := jm_F_t F (jm_F_t F2 F3)
      have T' : jm_T nh (jg_t d (jg_s d ni nh k) ni) m3' := fun h hh L t s q1 q2 q3 q4 => (congrFun G18 _).trans (T2 h hh L t s q1 q2 q3 q4)
      have S' : jm_S d ni (jg_s d ni nh (k + 1)) m3' := S3
      have zb := jg_z_b (T := jg_t d (jg_s d ni nh k) ni) (nh := nh) (jg_s_b (d := d) (ni := ni) (nh := nh) k) ni (Nat.le_refl _)
      have rr : jg_r d ni nh k = decide (jg_z d (jg_t d (jg_s d ni nh k) ni) (jg_s d ni nh k) nh ni ≤ nr) := by unfold jg_r; rw [n4]
      rw [jc_1, jm_a (jm_F_d F' E) (by omega), n3, show nI k + 1 = nI (k + 1) from nI_1 k]
      have mu : mo - (nI (k + 1)).toNatClampNeg < mo - (nI k).toNatClampNeg := by rw [pp_cl (by omega), pp_cl (by omega)]; omega
      refine pp_c _ (pp_lt (by omega) (by omega)) (fun w => ?_) (fun w => ?_)
      · refine hK _ _ _ ⟨k + 1, by omega, rfl, F', S', fun _ => T', Or.inl ⟨rfl, fun n hn => ?_⟩⟩ mu
        by_cases z : n = k
        · rw [z, rr]
          exact decide_eq_false (by omega)
        · exact hr n (by omega)
      · exact hK _ _ _ ⟨k + 1, by omega, rfl, F', S', fun _ => T', Or.inr ⟨rfl, by omega, hr, by rw [show k + 1 - 1 = k by omega, rr]; exact decide_eq_true (by omega)⟩⟩ mu
  · have w2 : jg_e d ni nh = k - 1 := pp_first_is (by omega) hr1 hr
    have w3 : jg_N d ni nh = k - 1 := by unfold jg_N; rw [w2, if_pos (by omega)]
    rw [w3, show k - 1 + 1 = k by omega] at q
    have r := q σ F HS (HT hr0)
    unfold jg_R at r
    rw [w2, if_pos (by omega), show k - 1 + 1 = k by omega] at r
    exact pp_nf (by decide) (pp_f (by decide) r)
