/-! ===== odds: binomials, powers, common measure ===== -/
def mm_ch : Nat → Nat → Nat
  | _, 0 => 1
  | 0, _ + 1 => 0
  | n + 1, k + 1 => mm_ch n k + mm_ch n (k + 1)
theorem mm_ch_0 (n : Nat) : mm_ch n 0 = 1 := by cases n <;> rfl
theorem mm_ch_gt : ∀ (n k : Nat), n < k → mm_ch n k = 0
  | _, 0, h => absurd h (Nat.not_lt_zero _)
  | 0, _ + 1, _ => rfl
  | n + 1, k + 1, h => by
    show mm_ch n k + mm_ch n (k + 1) = 0
    rw [mm_ch_gt n k (by omega), mm_ch_gt n (k + 1) (by omega)]
theorem mm_ch_le : ∀ (n k : Nat), mm_ch n k ≤ 2 ^ n
  | n, 0 => by rw [mm_ch_0]; exact Nat.one_le_two_pow
  | 0, _ + 1 => Nat.zero_le _
  | n + 1, k + 1 => by
    show mm_ch n k + mm_ch n (k + 1) ≤ 2 ^ (n + 1)
    have h1 := mm_ch_le n k
    have h2 := mm_ch_le n (k + 1)
    rw [Nat.pow_succ]
    omega
theorem mm_ch_pos : ∀ (n k : Nat), k ≤ n → 0 < mm_ch n k
  | n, 0, _ => by rw [mm_ch_0]; decide
  | 0, _ + 1, h => absurd h (by omega)
  | n + 1, k + 1, h => by
    show 0 < mm_ch n k + mm_ch n (k + 1)
    have := mm_ch_pos n k (by omega)
    omega
/-- (k + 1) over: times (n - k) -/
theorem mm_ch_A : ∀ (n k : Nat), (k + 1) * mm_ch n (k + 1) = (n - k) * mm_ch n k
  | 0, k => by
    rw [show mm_ch 0 (k + 1) = 0 from rfl, Nat.mul_zero, Nat.zero_sub, Nat.zero_mul]
  | n + 1, 0 => by
    show (0 + 1) * (mm_ch n 0 + mm_ch n 1) = (n + 1 - 0) * mm_ch (n + 1) 0
    have h := mm_ch_A n 0
    rw [mm_ch_0] at h
    rw [mm_ch_0, mm_ch_0, Nat.mul_add, h]
    omega
  | n + 1, k + 1 => by
    have h1 := mm_ch_A n k
    have h2 := mm_ch_A n (k + 1)
    show (k + 1 + 1) * (mm_ch n (k + 1) + mm_ch n (k + 1 + 1)) = (n + 1 - (k + 1)) * (mm_ch n k + mm_ch n (k + 1))
    rw [Nat.mul_add, h2, Nat.mul_add, show n + 1 - (k + 1) = n - k by omega, ← h1, ← Nat.add_mul, ← Nat.add_mul]
    by_cases hk : k + 1 ≤ n
    · rw [show k + 1 + 1 + (n - (k + 1)) = k + 1 + (n - k) by omega]
    · rw [mm_ch_gt n (k + 1) (by omega), Nat.mul_zero, Nat.mul_zero]
/-- (k + 1) over (n + 1): times (n + 1) -/
theorem mm_ch_B (n k : Nat) : (k + 1) * mm_ch (n + 1) (k + 1) = (n + 1) * mm_ch n k := by
  show (k + 1) * (mm_ch n k + mm_ch n (k + 1)) = _
  rw [Nat.mul_add, mm_ch_A, ← Nat.add_mul]
  by_cases hk : k ≤ n
  · rw [show k + 1 + (n - k) = n + 1 by omega]
  · rw [mm_ch_gt n k (by omega), Nat.mul_zero, Nat.mul_zero]
theorem mm_ch_40 {n k : Nat} (h : n ≤ 40) : mm_ch n k ≤ 1099511627776 := Nat.le_trans (mm_ch_le n k) (Nat.le_trans (Nat.pow_le_pow_right (by decide) h) (by decide))
def mm_cz (n : Nat) (k : Int) : Nat := if k < 0 then 0 else mm_ch n k.toNat
theorem nI_I {n : Nat} (h : n < 2147483648) : (nI n).toInt64 = lN n := nI_l h
theorem s9_choose {n : Nat} {x : Int32} {k : Int} {m : hh_S} {Q : Int64 → hh_S → Prop} (hn : n ≤ 40) (hx : x.toInt = k) (hk : k ≤ 1000) (q : Q (lN (mm_cz n k)) m) : wp_X9_choose (nI n) x m Q := by
  unfold wp_X9_choose
  have z0 : (0 : Int32).toInt = 0 := by decide
  by_cases h0 : k < 0
  · have hx0 : x < 0 := by rw [fa_lt, hx, z0]; exact h0
    refine pp_t hx0 ⟨1, ?_⟩
    show wq_X9_choose_18 _ _ _ _ _ _ _
    unfold wq_X9_choose_18
    have e : mm_cz n k = 0 := if_pos h0
    rw [e] at q
    exact pp_t (fa_of_lt hx0).1 q
  · have hx0 : ¬ x < 0 := by rw [fa_lt, hx, z0]; exact h0
    obtain ⟨j, hj, rfl⟩ := nI_of hx0
    have ek : k = (j : Int) := by rw [← hx, nI_toInt hj]
    have e : mm_cz n k = mm_ch n j := by
      unfold mm_cz
      rw [if_neg h0, ek]
      rfl
    rw [e] at q
    refine pp_f hx0 ?_
    refine pp_c _ (pp_le (by omega) (by omega)) (fun h1 => ?_) (fun h1 => ?_)
    · refine hh_lp2_i (fun a b σ => ∃ i, i ≤ j ∧ b = nI i ∧ a = lN (mm_ch n i) ∧ m = σ) (fun a b σ => j - b.toNatClampNeg) ?_ ⟨0, Nat.zero_le _, rfl, by rw [mm_ch_0]; rfl, rfl⟩
      rintro K a b σ ⟨i, hi, rfl, rfl, rfl⟩ hK
      unfold wq_X9_choose_18
      refine pp_c _ (pp_le (by omega) (by omega)) (fun h2 => ?_) (fun h2 => ?_)
      · have h2 : i = j := by omega
        subst h2
        exact q
      · have hb := mm_ch_40 (n := n) (k := i) hn
        have hp := mm_ch_pos n i (by omega)
        rw [show (0 : Int64) = lN 0 from rfl, lg_cmp_le, pk_lLE (by omega) (by omega)]
        refine pp_f (by omega) ?_
        rw [show nI i + 1 = nI (i + 1) from nI_1 i, pk_sub (by omega), nI_I (by omega), nI_I (by omega), lN_mul]
        have hb2 : mm_ch n i * (n - i) ≤ 1099511627776 * 40 := Nat.mul_le_mul hb (by omega)
        refine ⟨fun w => by rw [pk_lEQ (by omega) (by omega)] at w; omega, ?_⟩
        rw [pk_lDiv (by omega) (by omega) (by omega)]
        rintro v rfl
        refine hK _ _ _ ⟨i + 1, by omega, rfl, ?_, rfl⟩ (by rw [pp_cl (by omega), pp_cl (by omega)]; omega)
        rw [Nat.mul_comm, ← mm_ch_A, Nat.mul_div_cancel_left _ (by omega)]
    · refine ⟨1, ?_⟩
      show wq_X9_choose_18 _ _ _ _ _ _ _
      unfold wq_X9_choose_18
      rw [mm_ch_gt n j (by omega)] at q
      rw [show (0 : Int32) = nI 0 from rfl, show (0 : Int64) = lN 0 from rfl]
      refine pp_f (by rw [pp_le (by omega) (by omega)]; omega) (pp_t (by show lg_cmp (lN 0) (lN 0) ≤ (0 : Int32); rw [lg_cmp_le]; exact (pk_lLE (by omega) (by omega)).mpr (Nat.le_refl _)) q)
theorem s3_choose {n : Nat} {x : Int32} {k : Int} {m : hh_S} {Q : Int64 → hh_S → Prop} (hn : n ≤ 40) (hx : x.toInt = k) (hk : k ≤ 1000) (q : Q (lN (mm_cz n k)) m) : wp_X3_choose (nI n) x m Q := by
  unfold wp_X3_choose
  have z0 : (0 : Int32).toInt = 0 := by decide
  by_cases h0 : k < 0
  · have hx0 : x < 0 := by rw [fa_lt, hx, z0]; exact h0
    have e : mm_cz n k = 0 := if_pos h0
    rw [e] at q
    exact pp_t hx0 q
  · have hx0 : ¬ x < 0 := by rw [fa_lt, hx, z0]; exact h0
    obtain ⟨j, hj, rfl⟩ := nI_of hx0
    have ek : k = (j : Int) := by rw [← hx, nI_toInt hj]
    have e : mm_cz n k = mm_ch n j := by
      unfold mm_cz
      rw [if_neg h0, ek]
      rfl
    rw [e] at q
    refine pp_f hx0 ?_
    refine pp_c _ (pp_le (by omega) (by omega)) (fun h1 => ?_) (fun h1 => ?_)
    · refine hh_lp2_i (fun a b σ => ∃ i, i ≤ j ∧ b = nI (i + 1) ∧ a = lN (mm_ch (n - j + i) i) ∧ m = σ) (fun a b σ => j + 1 - b.toNatClampNeg) ?_ ⟨0, Nat.zero_le _, rfl, by rw [mm_ch_0]; rfl, rfl⟩
      rintro K a b σ ⟨i, hi, rfl, rfl, rfl⟩ hK
      unfold wq_X3_choose_16
      refine pp_c _ (pp_lt (by omega) (by omega)) (fun h2 => ?_) (fun h2 => ?_)
      · have h2 : i = j := by omega
        subst h2
        rw [show n - i + i = n by omega]
        exact q
      · have hb := mm_ch_40 (n := n - j + i) (k := i) (by omega)
        rw [show nI (i + 1) + 1 = nI (i + 1 + 1) from nI_1 (i + 1), pk_sub (by omega), nI_add, nI_I (by omega), nI_I (by omega), lN_mul]
        have hb2 : mm_ch (n - j + i) i * (n - j + (i + 1)) ≤ 1099511627776 * 40 := Nat.mul_le_mul hb (by omega)
        refine ⟨fun w => by rw [show (0 : Int64) = lN 0 from rfl, pk_lEQ (by omega) (by omega)] at w; omega, ?_⟩
        rw [pk_lDiv (by omega) (by omega) (by omega)]
        rintro v rfl
        refine hK _ _ _ ⟨i + 1, by omega, rfl, ?_, rfl⟩ (by rw [pp_cl (by omega), pp_cl (by omega)]; omega)
        rw [Nat.mul_comm, show n - j + (i + 1) = (n - j + i) + 1 by omega, ← mm_ch_B, Nat.mul_div_cancel_left _ (by omega)]
    · rw [mm_ch_gt n j (by omega)] at q
      exact q
theorem s3_power {b n : Nat} {m : hh_S} {Q : Int64 → hh_S → Prop} (hb : b < 2147483648) (hn : n < 2147483647) (q : Q (lN (b ^ n)) m) : wp_X3_power (nI b) (nI n) m Q := by
  unfold wp_X3_power
  refine hh_lp2_i (fun a x σ => ∃ i, i ≤ n ∧ x = nI i ∧ a = lN (b ^ i) ∧ m = σ) (fun a x σ => n - x.toNatClampNeg) ?_ ⟨0, Nat.zero_le _, rfl, rfl, rfl⟩
  rintro K a x σ ⟨i, hi, rfl, rfl, rfl⟩ hK
  unfold wq_X3_power_5
  refine pp_c _ (pp_le (by omega) (by omega)) (fun h2 => ?_) (fun h2 => ?_)
  · have h2 : i = n := by omega
    subst h2
    exact q
  · rw [nI_I hb, lN_mul, show nI i + 1 = nI (i + 1) from nI_1 i]
    rintro v rfl
    exact hK _ _ _ ⟨i + 1, by omega, rfl, by rw [Nat.pow_succ], rfl⟩ (by rw [pp_cl (by omega), pp_cl (by omega)]; omega)
/-- the common measure -/
theorem s9_common {a b : Nat} {m : hh_S} {Q : Int64 → hh_S → Prop} (ha : a < 9223372036854775808) (hb : b < 9223372036854775808) (q : Q (lN (Nat.gcd a b)) m) : wp_X9_common (lN a) (lN b) m Q := by
  unfold wp_X9_common
  refine hh_lp2_i (fun x y σ => ∃ p r, p < 9223372036854775808 ∧ r < 9223372036854775808 ∧ x = lN p ∧ y = lN r ∧ Nat.gcd p r = Nat.gcd a b ∧ m = σ) (fun x y σ => y.toInt.toNat) ?_ ⟨a, b, ha, hb, rfl, rfl, rfl, rfl⟩
  rintro K x y σ ⟨p, r, hp, hr, rfl, rfl, hg, rfl⟩ hK
  unfold wq_X9_common_6
  rw [show (0 : Int64) = lN 0 from rfl, lg_cmp_eq, pk_lEQ hr (by omega)]
  by_cases h : r = 0
  · refine pp_t h ?_
    subst h
    rw [Nat.gcd_zero_right] at hg
    rw [hg]
    exact q
  · refine pp_f h ⟨h, ?_⟩
    rw [pk_lRem hp (by omega) hr]
    rintro v rfl
    have hm := Nat.mod_lt p (show r > 0 by omega)
    refine hK _ _ _ ⟨r, p % r, hr, by omega, rfl, rfl, ?_, rfl⟩ ?_
    · rw [← hg, Nat.gcd_comm p r, Nat.gcd_comm r (p % r)]
      exact (Nat.gcd_rec r p).symm
    · rw [pk_lT (by omega), pk_lT (by omega)]
      omega
theorem s9_term {a b : Nat} {x : Int32} {m : hh_S} {Q : Int64 → hh_S → Prop} (ha : a < 9223372036854775808) (hb : b < 9223372036854775808) (h0 : 0 < b) (q : (x = 0 → Q (lN (a / Nat.gcd a b)) m) ∧ (¬ x = 0 → Q (lN (b / Nat.gcd a b)) m)) : wp_X9_term (lN a) (lN b) x m Q := by
  have hg := Nat.gcd_pos_of_pos_right a h0
  have hl : Nat.gcd a b ≤ b := Nat.gcd_le_right a h0
  have hne : ¬ lN (Nat.gcd a b) = 0 := fun w => by
    rw [show (0 : Int64) = lN 0 from rfl, pk_lEQ (by omega) (by omega)] at w
    omega
  unfold wp_X9_term
  refine s9_common ha hb ⟨fun w => ⟨hne, ?_⟩, fun w => ⟨hne, ?_⟩⟩
  · rw [pk_lDiv hb hg (by omega)]
    exact q.2 w
  · rw [pk_lDiv ha hg (by omega)]
    exact q.1 w
theorem pp_half {a b : Nat} (h : b ≤ a) : b * (a % b) * 2 ≤ a * b := by
  by_cases hb : b = 0
  · subst hb
    rw [Nat.zero_mul, Nat.zero_mul]
    exact Nat.zero_le _
  · have h1 : a % b < b := Nat.mod_lt _ (by omega)
    have h2 : a % b * 2 ≤ a := by
      have := Nat.div_add_mod a b
      have h3 : 1 ≤ a / b := (Nat.le_div_iff_mul_le (by omega)).mpr (by omega)
      have h4 : b ≤ b * (a / b) := Nat.le_mul_of_pos_right b (by omega)
      omega
    rw [Nat.mul_assoc, Nat.mul_comm a b]
    exact Nat.mul_le_mul_left b h2
theorem s3_reduce {a b : Nat} {c : hh_S} {Q : hh_S → Prop} (ha : a < 9223372036854775808) (hb : b < 9223372036854775808) (h0 : 0 < b) (q : Q (hh_uL (hh_uL c 577 (lN (a / Nat.gcd a b))) 578 (lN (b / Nat.gcd a b)))) : wp_X3_reduce (lN a) (lN b) c Q := by
  have hg := Nat.gcd_pos_of_pos_right a h0
  have hl : Nat.gcd a b ≤ b := Nat.gcd_le_right a h0
  have hne : ¬ lN (Nat.gcd a b) = 0 := fun w => by
    rw [show (0 : Int64) = lN 0 from rfl, pk_lEQ (by omega) (by omega)] at w
    omega
  have fin : ((lg_cmp (lN (Nat.gcd a b)) 0 ≤ 0 → Q c) ∧ (¬ lg_cmp (lN (Nat.gcd a b)) 0 ≤ 0 → ((¬ lN (Nat.gcd a b) = 0) ∧ (∀ σ4 : hh_S, σ4 = hh_uL c 577 (lN a / lN (Nat.gcd a b)) → ((¬ lN (Nat.gcd a b) = 0) ∧ (∀ σ6 : hh_S, σ6 = hh_uL σ4 578 (lN b / lN (Nat.gcd a b)) → Q σ6)))))) := by
    rw [show (0 : Int64) = lN 0 from rfl, lg_cmp_le, pk_lLE (by omega) (by omega)]
    refine pp_f (by omega) ⟨hne, ?_⟩
    rw [pk_lDiv ha hg (by omega), pk_lDiv hb hg (by omega)]
    rintro σ4 rfl
    refine ⟨hne, ?_⟩
    rintro σ6 rfl
    exact q
  unfold wp_X3_reduce
  refine hh_lp3_i (fun x y t σ => ∃ p r i, p < 9223372036854775808 ∧ r < 9223372036854775808 ∧ x = lN p ∧ y = lN r ∧ t = nI i ∧ i ≤ 127 ∧ p * r < 2 ^ (127 - i) ∧ (i = 0 ∨ r ≤ p) ∧ Nat.gcd p r = Nat.gcd a b ∧ c = σ) (fun x y t σ => 200 - t.toNatClampNeg) ?_ ⟨b, a, 0, hb, ha, rfl, rfl, rfl, by omega, ?_, Or.inl rfl, Nat.gcd_comm b a, rfl⟩
  · rintro K x y t σ ⟨p, r, i, hp, hr, rfl, rfl, rfl, hi, hpr, hor, hgc, rfl⟩ hK
    unfold wq_X3_reduce_9
    rw [show (200 : Int32) = nI 200 from rfl]
    refine pp_f (by rw [pp_le (by omega) (by omega)]; omega) ?_
    rw [show lg_cmp (lN r) 0 = 0 ↔ r = 0 from by rw [show (0 : Int64) = lN 0 from rfl, lg_cmp_eq, pk_lEQ hr (by omega)]]
    by_cases h : r = 0
    · refine pp_t h ?_
      subst h
      rw [Nat.gcd_zero_right] at hgc
      rw [hgc]
      exact fin
    · refine pp_f h ⟨fun w => h (by rw [show (0 : Int64) = lN 0 from rfl, pk_lEQ hr (by omega)] at w; exact w), ?_⟩
      have hm := Nat.mod_lt p (show r > 0 by omega)
      rw [pk_lRem hp (by omega) hr, show nI i + 1 = nI (i + 1) from nI_1 i]
      rintro v rfl
      have hi2 : i ≠ 127 := fun w => by
        subst w
        have : p * r < 1 := hpr
        have hp0 : p * r = 0 := by omega
        rcases Nat.mul_eq_zero.mp hp0 with w | w
        · rcases hor with w2 | w2
          · omega
          · omega
        · exact h w
      refine hK _ _ _ _ ⟨r, p % r, i + 1, hr, by omega, rfl, rfl, rfl, by omega, ?_, Or.inr (by omega), ?_, rfl⟩ (by rw [pp_cl (by omega), pp_cl (by omega)]; omega)
      · rcases hor with w | w
        · subst w
          by_cases hle : r ≤ p
          · have := pp_half hle
            have e : (2 : Nat) ^ (127 - 0) = 2 ^ (127 - (0 + 1)) * 2 := by decide
            rw [e] at hpr
            omega
          · rw [Nat.mod_eq_of_lt (by omega)]
            have h1 : r * p ≤ 9223372036854775807 * 9223372036854775807 := Nat.mul_le_mul (by omega) (by omega)
            have h2 : (9223372036854775807 * 9223372036854775807 : Nat) < 2 ^ (127 - (0 + 1)) := by decide
            omega
        · have := pp_half w
          have e : (2 : Nat) ^ (127 - i) = 2 ^ (127 - (i + 1)) * 2 := by
            rw [show 127 - i = (127 - (i + 1)) + 1 by omega, Nat.pow_succ]
          rw [e] at hpr
          omega
      · rw [← hgc, Nat.gcd_comm p r, Nat.gcd_comm r (p % r)]
        exact (Nat.gcd_rec r p).symm
  · have h1 : b * a ≤ 9223372036854775807 * 9223372036854775807 := Nat.mul_le_mul (by omega) (by omega)
    have h2 : (9223372036854775807 * 9223372036854775807 : Nat) < 2 ^ (127 - 0) := by decide
    omega
