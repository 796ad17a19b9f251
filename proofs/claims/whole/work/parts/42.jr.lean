/-! ===== a JOINING, in the class: all of it ===== -/
theorem s2_renewAll {b ns ni nh : Nat} {T : Nat → Nat → Nat → Nat → Nat} {S : Nat → Nat → Nat} {c d : hh_S} {Q : Int32 → hh_S → Prop} (R : rr_C ns ni nh c d) (HT : jc_T b nh T c) (TB : jg_TB T) (B : jg_B d ni S) (HS : jc_S b d ni S c) (q : ∀ c' : hh_S, c'.1 = c.1 → (∀ k, k < 55 + 34 * b ∨ 79 + 34 * b ≤ k → c'.2.2.1 k = c.2.2.1 k) → jc_S b d ni (jg_x d T S nh) c' → Q (nI (jg_z d T S nh ni)) c') : wp_X2_renewAll b c Q := by
  have h24 := R.2.1.1
  have h10 := R.2.2.1.1
  unfold wp_X2_renewAll
  refine hh_lp2_i (fun x y σ => ∃ j, j ≤ ni ∧ y = nI j ∧ x = nI (jg_z d T S nh j) ∧ σ.1 = c.1 ∧ (∀ k, k < 55 + 34 * b ∨ 79 + 34 * b ≤ k → σ.2.2.1 k = c.2.2.1 k) ∧ (∀ i, i < ni → ∀ l, l < mm_L d i → hh_a σ (55 + 34 * b + i) l = if i < j then nI (jg_x d T S nh i l) else nI (S i l))) (fun x y σ => ni - y.toNatClampNeg) ?_ ⟨0, by omega, rfl, rfl, rfl, fun _ _ => rfl, fun i hi l hl => by rw [if_neg (by omega)]; exact HS i hi l hl⟩
  rintro K x y σ ⟨j, hj, rfl, rfl, hI, hO, hV⟩ hK
  have RC : rr_C ns ni nh σ d := jc_E_C ⟨hI, fun k hk => hO k (by omega)⟩ R
  unfold wq_X2_renewAll_4
  show (σ.1 256 ≤ nI j → _) ∧ (¬ σ.1 256 ≤ nI j → _)
  rw [RC.2.1.2.1]
  refine pp_c _ (pp_le (by omega) (by omega)) (fun e => ?_) (fun e => s1_isFree RC (by omega) ?_)
  · have e : j = ni := by omega
    subst e
    exact q σ hI hO (fun i hi l hl => by rw [hV i hi l hl, if_pos hi])
  · have mu : ni - (nI (j + 1)).toNatClampNeg < ni - (nI j).toNatClampNeg := by rw [pp_cl (by omega), pp_cl (by omega)]; omega
    have stay : jg_f d nh j = false → K (nI (jg_z d T S nh j)) (nI j + 1) σ := by
      intro w
      rw [show nI j + 1 = nI (j + 1) from nI_1 j]
      refine hK _ _ _ ⟨j + 1, by omega, rfl, by rw [jg_z, if_neg (by rw [w]; decide)], hI, hO, fun i hi l hl => ?_⟩ mu
      rw [hV i hi l hl]
      by_cases z : i = j
      · rw [if_neg (by omega), if_pos (by omega), jg_x, z, if_neg (by rw [w]; decide)]
      · by_cases z2 : i < j
        · rw [if_pos z2, if_pos (by omega)]
        · rw [if_neg z2, if_neg (by omega)]
    have hn : jg_n d nh j ≤ 10 := by have := fb_ct_le (fun h => mm_cnt d h j) nh; unfold jg_n; omega
    refine pp_bz (fun w => stay (by unfold jg_f; rw [w, Bool.false_and])) (fun w => s0_countN RC (by omega) ?_)
    rw [show (0 : Int32) = nI 0 from rfl]
    refine pp_c _ (pp_le (by omega) (by omega)) (fun w2 => stay (by unfold jg_f; rw [decide_eq_false (p := 0 < jg_n d nh j) (by omega), Bool.and_false])) (fun w2 => ?_)
    have hf : jg_f d nh j = true := by unfold jg_f; rw [w, decide_eq_true (p := 0 < jg_n d nh j) (by omega)]; rfl
    have HT2 : jc_T b nh T σ := fun h hh L t s q1 q2 q3 q4 => (congrFun (hO _ (by omega)) _).trans (HT h hh L t s q1 q2 q3 q4)
    obtain ⟨L, L2, L4, hL, lb, l22, -⟩ := rr_lb RC (show j < ni by omega)
    refine s2_weighAnswers RC (by omega) HT2 TB ?_
    intro c1 a1 a2 a3
    rw [hL] at a3
    have rw1 : ∀ k l, hh_a c1 k l = hh_a σ k l := fun k l => by unfold hh_a; rw [a2]
    refine s2_takeFresh (L := L) (o := jg_o d T j nh) (S := S j) (by omega) ((rw1 _ _).trans l22) L4 (fun l hl => ⟨a3 l hl, jg_o_b nh l (by rw [hL]; exact hl)⟩) (fun l hl => ⟨?_, B j (by omega) l (by rw [hL]; exact hl)⟩) ?_
    · rw [rw1, hV j (by omega) l (by rw [hL]; exact hl), if_neg (by omega)]
    · intro c2 d1 d2 d3 v hv
      have z1 := jg_z_b (T := T) (nh := nh) B j (by omega)
      have y1 : jg_y (jg_o d T j nh) (S j) 0 L ≤ 1000000 := jg_y_b (by omega) L (fun l hl => jg_o_b nh l (by rw [hL]; exact hl)) (fun l hl => B j (by omega) l (by rw [hL]; exact hl))
      rw [show nI j + 1 = nI (j + 1) from nI_1 j]
      refine hK _ _ _ ⟨j + 1, by omega, rfl, ?_, d1.trans (a1.trans hI), fun k hk => (d2 k (by omega)).trans ((congrFun a2 k).trans (hO k hk)), fun i hi l hl => ?_⟩ mu
      · rw [hv, jg_z, if_pos hf, hL, jg_y_0 (a := jg_z d T S nh j)]
        by_cases z : jg_z d T S nh j < jg_y (jg_o d T j nh) (S j) 0 L
        · rw [if_pos z, if_pos ((pp_lt (by omega) (by omega)).mpr z)]
        · rw [if_neg z, if_neg (fun y => z ((pp_lt (by omega) (by omega)).mp y))]
      · by_cases z : i = j
        · subst z
          rw [d3 l (by omega), if_pos (by omega), jg_x, if_pos hf]
        · have : hh_a c2 (55 + 34 * b + i) l = hh_a σ (55 + 34 * b + i) l := (congrFun (d2 _ (by omega)) l).trans (rw1 _ _)
          rw [this, hV i hi l hl]
          by_cases z2 : i < j
          · rw [if_pos z2, if_pos (by omega)]
          · rw [if_neg z2, if_neg (by omega)]
def jc_F (b : Nat) (c c' : hh_S) : Prop := c'.1 = c.1 ∧ ∀ k, k < 55 + 34 * b ∨ 89 + 34 * b ≤ k → c'.2.2.1 k = c.2.2.1 k
theorem jc_F_E {b : Nat} {c c' : hh_S} (h : jc_F b c c') : jc_E c c' := ⟨h.1, fun k hk => h.2 k (by omega)⟩
theorem jc_F_t {b : Nat} {a c e : hh_S} (h : jc_F b a c) (g : jc_F b c e) : jc_F b a e := ⟨g.1.trans h.1, fun k hk => (g.2 k hk).trans (h.2 k hk)⟩
theorem jg_first {p : Nat → Bool} {m k : Nat} (h : ∀ j, j < k → p j = false) (hk : k ≤ m) : k ≤ fa_first p m := by
  by_cases e : fa_first p m < m
  · have := fa_first_yes _ _ e
    apply Classical.byContradiction
    intro z
    rw [h _ (by omega)] at this
    exact absurd this (by decide)
  · omega
theorem s2_run {b ns ni nh : Nat} {c d : hh_S} {Q : Int32 → hh_S → Prop} (R : rr_C ns ni nh c d) (q : ∀ c' : hh_S, jc_F b c c' → jc_S b d ni (jg_s d ni nh (jg_N d ni nh + 1)) c' → jc_T b nh (jg_t d (jg_s d ni nh (jg_N d ni nh)) ni) c' → Q (jg_R d ni nh) c') : wp_X2_run b c Q := by
  have h24 := R.2.1.1
  have h10 := R.2.2.1.1
  obtain ⟨-, ⟨nr, n1, n2, n3, n4⟩, ⟨mo, m1, m2, m3, m4, m5⟩⟩ := jg_rules R
  unfold wp_X2_run
  intro v hv
  rw [jc_2, m3] at hv
  subst hv
  refine hh_lp1_i (fun x σ => ∃ j, j ≤ ni ∧ x = nI j ∧ jc_F b c σ ∧ (∀ i, i < j → ∀ l, l < mm_L d i → hh_a σ (55 + 34 * b + i) l = nI (jg_0 d nh i l))) (fun x σ => ni - x.toNatClampNeg) ?_ ⟨0, by omega, rfl, ⟨rfl, fun _ _ => rfl⟩, fun i hi => absurd hi (Nat.not_lt_zero i)⟩
  rintro K x σ ⟨j, hj, rfl, F, hV⟩ hK
  have RC : rr_C ns ni nh σ d := jc_E_C (jc_F_E F) R
  unfold wq_X2_run_12
  show (σ.1 256 ≤ nI j → _) ∧ (¬ σ.1 256 ≤ nI j → _)
  rw [RC.2.1.2.1]
  refine pp_c _ (pp_le (by omega) (by omega)) (fun e => ?_) (fun e => s2_startShares RC (by omega) ?_)
  · have e : j = ni := by omega
    subst e
    have S0 : jc_S b d j (jg_s d j nh 0) σ := hV
    clear hV hK K RC
    refine hh_lp1_i (fun x σ => ∃ k, k ≤ mo ∧ x = nI (k + 1) ∧ jc_F b c σ ∧ jc_S b d j (jg_s d j nh k) σ ∧ (∀ n, n < k → jg_r d j nh n = false) ∧ (0 < k → jc_T b nh (jg_t d (jg_s d j nh (k - 1)) j) σ)) (fun x σ => mo + 1 - x.toNatClampNeg) ?_ ⟨0, by omega, rfl, F, S0, fun n hn => absurd hn (Nat.not_lt_zero n), fun h => absurd h (by omega)⟩
    clear S0 F σ
    rintro K x σ ⟨k, hk, rfl, F, HS, hr, HT⟩ hK
    have RC : rr_C ns j nh σ d := jc_E_C (jc_F_E F) R
    unfold wq_X2_run_36
    have up := jg_first hr (m := jg_m d) (by omega)
    have le : fa_first (jg_r d j nh) (jg_m d) ≤ jg_m d := fa_first_le _ _
    refine pp_c _ (pp_lt (by omega) (by omega)) (fun e => ?_) (fun e => ?_)
    · have e : k = mo := by omega
      subst e
      have w : ¬ jg_e d j nh < jg_m d := by unfold jg_e; omega
      have w2 : jg_N d j nh = k - 1 := by unfold jg_N; rw [if_neg w]; omega
      rw [w2, show k - 1 + 1 = k by omega] at q
      have r := q σ F HS (HT (by omega))
      unfold jg_R at r
      rw [if_neg w, m5] at r
      exact r
    · have TB : jg_TB (jg_t d (jg_s d j nh k) j) := fun h L t s q1 q2 => jg_t_b R (jg_s_b k) q1 q2
      generalize hT : jg_t d (jg_s d j nh k) j = T at *
      generalize hS : jg_s d j nh k = S at *
      have SB : jg_B d j S := by rw [← hS]; exact jg_s_b k
      refine hh_lp1_i (fun x σ => ∃ h, h ≤ nh ∧ x = nI h ∧ jc_F b c σ ∧ jc_S b d j S σ ∧ jc_T b h T σ) (fun x σ => nh - x.toNatClampNeg) ?_ ⟨0, by omega, rfl, F, HS, fun h hh => absurd hh (Nat.not_lt_zero h)⟩
      clear F HS RC HT
      rintro K2 x σ2 ⟨h, hh, rfl, F, HS, HT⟩ hK2
      have RC : rr_C ns j nh σ2 d := jc_E_C (jc_F_E F) R
      unfold wq_X2_run_43
      show (σ2.1 320 ≤ nI h → _) ∧ (¬ σ2.1 320 ≤ nI h → _)
      rw [RC.2.2.1.2.1]
      refine pp_c _ (pp_le (by omega) (by omega)) (fun e3 => ?_) (fun e3 => s2_sumSaid RC (by omega) SB HS ?_)
      · have e3 : h = nh := by omega
        subst e3
        refine s2_renewAll RC HT TB SB HS ?_
        intro c' a1 a2 a3
        have F' : jc_F b c c' := jc_F_t F ⟨a1, fun k hk => a2 k (by omega)⟩
        have T' : jc_T b h T c' := fun h' hh' L t s q1 q2 q3 q4 => (congrFun (a2 _ (by omega)) _).trans (HT h' hh' L t s q1 q2 q3 q4)
        rw [jc_1, show hh_a c' 29 1 = nI nr from (congrFun (F'.2 29 (by omega)) 1).trans n2]
        have zb := jg_z_b (T := T) (nh := h) SB j (Nat.le_refl _)
        have rr : jg_r d j h k = decide (jg_z d T S h j ≤ nr) := by unfold jg_r; rw [hS, hT, n4]
        have S' : jg_s d j h (k + 1) = jg_x d T S h := by rw [jg_s, hS, hT]
        refine pp_c _ (pp_lt (by omega) (by omega)) (fun w => ?_) (fun w => ?_)
        · rw [show nI (k + 1) + 1 = nI (k + 1 + 1) from nI_1 _]
          refine hK _ _ ⟨k + 1, by omega, rfl, F', by rw [S']; exact a3, fun n hn => ?_, fun _ => by rw [show k + 1 - 1 = k by omega, hS, hT]; exact T'⟩ (by rw [pp_cl (by omega), pp_cl (by omega)]; omega)
          by_cases z : n = k
          · rw [z, rr]
            exact decide_eq_false (by omega)
          · exact hr n (by omega)
        · have w2 : jg_e d j h = k := pp_first_is (by omega) (by rw [rr]; exact decide_eq_true (by omega)) hr
          have w3 : jg_N d j h = k := by unfold jg_N; rw [w2, if_pos (by omega)]
          rw [w3, S', hS, hT] at q
          have r := q c' F' a3 T'
          unfold jg_R at r
          rw [w2, if_pos (by omega)] at r
          exact r
      · intro c1 a1 a2 a3
        refine s2_fillTables (by omega) a3 (fun L t s q1 q2 => ?_) ?_
        · obtain ⟨u1, u2⟩ := jg_u_b (h := h) (s := s) RC SB (Nat.le_refl j) q1
          exact ⟨by omega, u2⟩
        · intro c2 b1 b2 b3 b4
          rw [show nI h + 1 = nI (h + 1) from nI_1 h]
          refine hK2 _ _ ⟨h + 1, by omega, rfl, jc_F_t F ⟨b1.trans a1, fun k hk => (b3 k (by omega)).trans (congrFun a2 k)⟩, fun i hi l hl => ?_, fun h' hh' L t s q1 q2 q3 q4 => ?_⟩ (by rw [pp_cl (by omega), pp_cl (by omega)]; omega)
          · exact (congrFun ((b3 _ (by omega)).trans (congrFun a2 _)) l).trans (HS i hi l hl)
          · by_cases z : h' = h
            · rw [z, b4 L t s q1 q2 q3 q4, ← hT]
              rfl
            · exact (congrFun ((b3 _ (by omega)).trans (congrFun a2 _)) _).trans (HT h' (by omega) L t s q1 q2 q3 q4)
  · intro c' a1 a2 a3
    rw [show nI j + 1 = nI (j + 1) from nI_1 j]
    refine hK _ _ ⟨j + 1, by omega, rfl, jc_F_t F ⟨a1, fun k hk => a2 k (by omega)⟩, fun i hi l hl => ?_⟩ (by rw [pp_cl (by omega), pp_cl (by omega)]; omega)
    by_cases z : i = j
    · rw [z] at hl ⊢
      exact a3 l hl
    · exact (congrFun (a2 _ (by omega)) l).trans (hV i (by omega) l hl)
/-- the LABEL with the greatest of these SHARES -/
def jg_E (d : hh_S) (S : Nat → Nat → Nat) (i : Nat) : Nat := pp_bst (fun l => nI (S i l)) (mm_L d i)
theorem s2_great {b ns ni nh i : Nat} {S : Nat → Nat → Nat} {c d : hh_S} {Q : Int32 → hh_S → Prop} (R : rr_C ns ni nh c d) (HS : jc_S b d ni S c) (hi : i < ni) (q : Q (nI (jg_E d S i)) c) : wp_X2_greatest b (nI i) c Q := by
  have h24 := R.2.1.1
  obtain ⟨L, L2, L4, hL, lb, l22, -⟩ := rr_lb R hi
  refine s2_greatest (L := L) (f := fun l => nI (S i l)) (by omega) l22 L2 L4 (fun l hl => HS i hi l (by omega)) ?_
  unfold jg_E at q
  rw [hL] at q
  exact q
theorem jg_E_lt {ns ni nh i : Nat} {S : Nat → Nat → Nat} {c d : hh_S} (R : rr_C ns ni nh c d) (hi : i < ni) : jg_E d S i < 4 := by
  obtain ⟨L, L2, L4, hL, -⟩ := rr_lb R hi
  have := pp_bst_lt (fun l => nI (S i l)) (n := mm_L d i) (by omega)
  unfold jg_E
  omega
theorem s2_keepEnds {b ns ni nh : Nat} {S : Nat → Nat → Nat} {c d : hh_S} {Q : hh_S → Prop} (hb : b ≤ 1) (R : rr_C ns ni nh c d) (HS : jc_S b d ni S c) (q : ∀ c' : hh_S, c'.1 = c.1 → (∀ k, k ≠ 35 + 6 * b → c'.2.2.1 k = c.2.2.1 k) → (∀ i, i < ni → hh_a c' (35 + 6 * b) i = nI (jg_E d S i)) → Q c') : wp_X2_keepEnds b c Q := by
  have h24 := R.2.1.1
  unfold wp_X2_keepEnds
  refine hh_lp1_i (fun x σ => ∃ j, j ≤ ni ∧ x = nI j ∧ σ.1 = c.1 ∧ (∀ k, k ≠ 35 + 6 * b → σ.2.2.1 k = c.2.2.1 k) ∧ (∀ i, i < j → hh_a σ (35 + 6 * b) i = nI (jg_E d S i))) (fun x σ => ni - x.toNatClampNeg) ?_ ⟨0, by omega, rfl, rfl, fun _ _ => rfl, fun i hi => absurd hi (Nat.not_lt_zero i)⟩
  rintro K x σ ⟨j, hj, rfl, hI, hO, hV⟩ hK
  have RC : rr_C ns ni nh σ d := rr_C_c (by rw [hI]; exact ⟨rfl, rfl, rfl⟩) (fun k hk => hO k (by unfold rr_kc at hk; omega)) R
  unfold wq_X2_keepEnds_2
  show (σ.1 256 ≤ nI j → _) ∧ (¬ σ.1 256 ≤ nI j → _)
  rw [RC.2.1.2.1]
  refine pp_c _ (pp_le (by omega) (by omega)) (fun e => ?_) (fun e => s2_great (S := S) RC (fun i hi l hl => (congrFun (hO _ (by omega)) l).trans (HS i hi l hl)) (by omega) ⟨pp_in (by omega) (by omega), ?_⟩)
  · have e : j = ni := by omega
    subst e
    exact q σ hI hO hV
  · intro σ2 e2
    rw [show nI j + 1 = nI (j + 1) from nI_1 j]
    refine hK _ _ ⟨j + 1, by omega, rfl, by rw [e2]; exact hI, fun k hk => by rw [e2, pp_sA_f hk]; exact hO k hk, fun i hi => ?_⟩ (by rw [pp_cl (by omega), pp_cl (by omega)]; omega)
    rw [e2, pp_sA_a (by omega)]
    by_cases z : i = j
    · rw [if_pos ⟨rfl, z⟩, z]
    · rw [if_neg (fun y => z y.2)]
      exact hV i (by omega)
def jg_bits (p : Nat → Bool) : Nat → Int32
  | 0 => 0
  | i + 1 => if p i = true then jg_bits p i else jg_bits p i ||| ((1 : Int32) <<< (nI i &&& 31))
theorem jg_bits_cong {p r : Nat → Bool} : ∀ {n : Nat}, (∀ k, k < n → p k = r k) → jg_bits p n = jg_bits r n
  | 0, _ => rfl
  | n + 1, h => by rw [jg_bits, jg_bits, h n (by omega), jg_bits_cong (fun k hk => h k (by omega))]
theorem s2_endsUnlikeKept {b ns ni nh : Nat} {S S' : Nat → Nat → Nat} {c d : hh_S} {Q : Int32 → hh_S → Prop} (R : rr_C ns ni nh c d) (HS : jc_S b d ni S c) (HK : ∀ i, i < ni → hh_a c (35 + 6 * b) i = nI (jg_E d S' i)) (q : Q (jg_bits (fun i => decide (jg_E d S' i = jg_E d S i)) ni) c) : wp_X2_endsUnlikeKept b c Q := by
  have h24 := R.2.1.1
  unfold wp_X2_endsUnlikeKept
  refine hh_lp2_i (fun x y σ => ∃ j, j ≤ ni ∧ y = nI j ∧ x = jg_bits (fun i => decide (jg_E d S' i = jg_E d S i)) j ∧ c = σ) (fun x y σ => ni - y.toNatClampNeg) ?_ ⟨0, by omega, rfl, rfl, rfl⟩
  rintro K x y σ ⟨j, hj, rfl, rfl, rfl⟩ hK
  unfold wq_X2_endsUnlikeKept_4
  show (c.1 256 ≤ nI j → _) ∧ (¬ c.1 256 ≤ nI j → _)
  rw [R.2.1.2.1]
  refine pp_c _ (pp_le (by omega) (by omega)) (fun e => ?_) (fun e => ⟨pp_in (by omega) (by omega), s2_great R HS (by omega) ?_⟩)
  · have e : j = ni := by omega
    subst e
    exact q
  · have mu : ni - (nI (j + 1)).toNatClampNeg < ni - (nI j).toNatClampNeg := by rw [pp_cl (by omega), pp_cl (by omega)]; omega
    have k1 := jg_E_lt (S := S) R (show j < ni by omega)
    have k2 := jg_E_lt (S := S') R (show j < ni by omega)
    rw [pp_rA (by omega), HK j (by omega), show nI j + 1 = nI (j + 1) from nI_1 j]
    refine pp_c _ (pp_eq (by omega) (by omega)) (fun w => ?_) (fun w => ?_)
    · exact hK _ _ _ ⟨j + 1, by omega, rfl, by rw [jg_bits, if_pos (decide_eq_true w)], rfl⟩ mu
    · rintro v rfl
      exact hK _ _ _ ⟨j + 1, by omega, rfl, by rw [jg_bits, if_neg (by rw [decide_eq_false w]; decide)], rfl⟩ mu
