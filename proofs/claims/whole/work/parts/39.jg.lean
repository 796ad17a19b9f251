/-! ===== a JOINING, in numbers ===== -/
def jg_d (m : hh_S) : hh_S := (fun k => if k = 2 ∨ k = 7 ∨ k = 13 then m.1 k else 0, fun _ => 0, fun k => if 2 ≤ k ∧ k ≤ 14 then m.2.2.1 k else fun _ => 0, fun _ _ => 0)
theorem jg_d_a {m d : hh_S} (E : jg_d m = d) {k : Nat} (h : 2 ≤ k ∧ k ≤ 14) : m.2.2.1 k = d.2.2.1 k := by
  rw [← E]
  exact (if_pos h).symm
theorem jg_d_s {m d : hh_S} (E : jg_d m = d) : m.1 2 = d.1 2 ∧ m.1 7 = d.1 7 ∧ m.1 13 = d.1 13 := by
  rw [← E]
  exact ⟨rfl, rfl, rfl⟩
theorem jg_d_of {m m' : hh_S} (h1 : m'.1 2 = m.1 2 ∧ m'.1 7 = m.1 7 ∧ m'.1 13 = m.1 13) (h : ∀ k, 2 ≤ k → k ≤ 14 → m'.2.2.1 k = m.2.2.1 k) : jg_d m' = jg_d m := by
  have a : (fun k => if k = 2 ∨ k = 7 ∨ k = 13 then m'.1 k else 0) = (fun k => if k = 2 ∨ k = 7 ∨ k = 13 then m.1 k else 0) := by
    funext k
    by_cases e : k = 2 ∨ k = 7 ∨ k = 13
    · rw [if_pos e, if_pos e]
      rcases e with rfl | rfl | rfl
      · exact h1.1
      · exact h1.2.1
      · exact h1.2.2
    · rw [if_neg e, if_neg e]
  have b : (fun k => if 2 ≤ k ∧ k ≤ 14 then m'.2.2.1 k else fun _ => 0) = (fun k => if 2 ≤ k ∧ k ≤ 14 then m.2.2.1 k else fun _ => 0) := by
    funext k
    by_cases e : 2 ≤ k ∧ k ≤ 14
    · rw [if_pos e, if_pos e, h k e.1 e.2]
    · rw [if_neg e, if_neg e]
  unfold jg_d
  rw [a, b]
theorem jg_C {ns ni nh : Nat} {c m d : hh_S} (E : jg_d m = d) (R : rr_C ns ni nh c d) : rr_C ns ni nh c m := rr_C_m (m := d) (jg_d_s E) (fun _ hk => jg_d_a E hk) R
theorem jg_C' {ns ni nh : Nat} {c m d : hh_S} (E : jg_d m = d) (R : rr_C ns ni nh c m) : rr_C ns ni nh c d := rr_C_m (m := m) ⟨(jg_d_s E).1.symm, (jg_d_s E).2.1.symm, (jg_d_s E).2.2.symm⟩ (fun _ hk => (jg_d_a E hk).symm) R
def jg_a (d : hh_S) (h i : Nat) : Nat := (hh_a d 13 (24 * h + i)).toNatClampNeg - 1
def jg_n (d : hh_S) (nh i : Nat) : Nat := fb_ct (fun h => mm_cnt d h i) nh
def jg_0 (d : hh_S) (nh i l : Nat) : Nat := if mm_fix d i < 0 then (if jg_n d nh i = 0 then 1000000 / mm_L d i else 1000000 * fb_ct (mm_cw d i l) nh / jg_n d nh i) else if mm_fix d i = nI l then 1000000 else 0
def jg_q (d : hh_S) (S : Nat → Nat → Nat) (h L t s i : Nat) : Nat := if mm_L d i = L ∧ mm_cw d i s h = true then S i t else 0
def jg_u (d : hh_S) (S : Nat → Nat → Nat) (h L t s n : Nat) : Nat := 10000 * (hh_a d 14 0).toNatClampNeg + fb_sm (jg_q d S h L t s) n
def jg_t (d : hh_S) (S : Nat → Nat → Nat) (ni h L t s : Nat) : Nat := 1000 * jg_u d S h L t s ni / fb_sm (fun s => jg_u d S h L t s ni) L
def jg_w (T : Nat → Nat) (L : Nat) (o : Nat → Nat) (l : Nat) : Nat := if fb_sm (fun k => o k * T k) L = 0 then o l else o l * T l * 1000000 / fb_sm (fun k => o k * T k) L
def jg_o (d : hh_S) (T : Nat → Nat → Nat → Nat → Nat) (i : Nat) : Nat → Nat → Nat
  | 0 => fun _ => 1000000 / mm_L d i
  | h + 1 => if mm_cnt d h i = true then jg_w (fun l => T h (mm_L d i) l (jg_a d h i)) (mm_L d i) (jg_o d T i h) else jg_o d T i h
def jg_f (d : hh_S) (nh i : Nat) : Bool := decide (mm_fix d i < 0) && decide (0 < jg_n d nh i)
def jg_x (d : hh_S) (T : Nat → Nat → Nat → Nat → Nat) (S : Nat → Nat → Nat) (nh i l : Nat) : Nat := if jg_f d nh i = true then jg_o d T i nh l else S i l
def jg_k (a b : Nat) : Nat := if a < b then b - a else a - b
def jg_y (o S : Nat → Nat) (a : Nat) : Nat → Nat
  | 0 => a
  | l + 1 => if jg_y o S a l < jg_k (o l) (S l) then jg_k (o l) (S l) else jg_y o S a l
def jg_z (d : hh_S) (T : Nat → Nat → Nat → Nat → Nat) (S : Nat → Nat → Nat) (nh : Nat) : Nat → Nat
  | 0 => 0
  | i + 1 => if jg_f d nh i = true then jg_y (jg_o d T i nh) (S i) (jg_z d T S nh i) (mm_L d i) else jg_z d T S nh i
def jg_s (d : hh_S) (ni nh : Nat) : Nat → Nat → Nat → Nat
  | 0 => jg_0 d nh
  | k + 1 => jg_x d (jg_t d (jg_s d ni nh k) ni) (jg_s d ni nh k) nh
def jg_r (d : hh_S) (ni nh k : Nat) : Bool := decide (jg_z d (jg_t d (jg_s d ni nh k) ni) (jg_s d ni nh k) nh ni ≤ (hh_a d 14 1).toNatClampNeg)
def jg_m (d : hh_S) : Nat := (hh_a d 14 2).toNatClampNeg
noncomputable def jg_e (d : hh_S) (ni nh : Nat) : Nat := fa_first (jg_r d ni nh) (jg_m d)
/-- how many TURNS less one -/
noncomputable def jg_N (d : hh_S) (ni nh : Nat) : Nat := if jg_e d ni nh < jg_m d then jg_e d ni nh else jg_m d - 1
noncomputable def jg_R (d : hh_S) (ni nh : Nat) : Int32 := if jg_e d ni nh < jg_m d then nI (jg_e d ni nh + 1) else nI (jg_m d) - 100
def jg_B (d : hh_S) (ni : Nat) (S : Nat → Nat → Nat) : Prop := ∀ i, i < ni → ∀ l, l < mm_L d i → S i l ≤ 1000000
theorem jg_rules {ns ni nh : Nat} {c d : hh_S} (R : rr_C ns ni nh c d) : (∃ v, 1 ≤ v ∧ v ≤ 100 ∧ hh_a c 29 0 = nI v ∧ hh_a d 14 0 = nI v ∧ (hh_a d 14 0).toNatClampNeg = v) ∧ (∃ v, v ≤ 100000 ∧ hh_a c 29 1 = nI v ∧ hh_a d 14 1 = nI v ∧ (hh_a d 14 1).toNatClampNeg = v) ∧ (∃ v, 1 ≤ v ∧ v ≤ 60 ∧ hh_a c 29 2 = nI v ∧ hh_a d 14 2 = nI v ∧ jg_m d = v) := by
  have r := R.2.2.2.2
  refine ⟨?_, ?_, ?_⟩
  · obtain ⟨e, v, h1, h2, h3⟩ := r 0 (by omega)
    have h1 : 1 ≤ v := h1
    have h2 : v ≤ 100 := h2
    exact ⟨v, h1, h2, e.trans h3, h3, by rw [h3, pp_cl (by omega)]⟩
  · obtain ⟨e, v, h1, h2, h3⟩ := r 1 (by omega)
    have h2 : v ≤ 100000 := h2
    exact ⟨v, h2, e.trans h3, h3, by rw [h3, pp_cl (by omega)]⟩
  · obtain ⟨e, v, h1, h2, h3⟩ := r 2 (by omega)
    have h1 : 1 ≤ v := h1
    have h2 : v ≤ 60 := h2
    exact ⟨v, h1, h2, e.trans h3, h3, by unfold jg_m; rw [h3, pp_cl (by omega)]⟩
/-- an answer that COUNTS has a LABEL -/
theorem jg_an {ns ni nh h i : Nat} {c d : hh_S} (R : rr_C ns ni nh c d) (hh : h < nh) (hi : i < ni) (hc : mm_cnt d h i = true) : jg_a d h i < mm_L d i ∧ hh_a d 13 (24 * h + i) = nI (jg_a d h i + 1) ∧ hh_a c (45 + h) i = nI (jg_a d h i) ∧ ∀ s, s < 4 → (mm_cw d i s h = decide (jg_a d h i = s)) := by
  obtain ⟨L, L2, L4, hL, lb, l22, -⟩ := rr_lb R hi
  have hc' := id hc
  unfold mm_cnt at hc
  rw [Bool.and_eq_true] at hc
  have e1 := of_decide_eq_true hc.2
  rcases (R.2.2.2.1 h hh).1 i hi with ⟨b1, b2⟩ | ⟨k, L', z, hk, hL', b1, b2⟩
  · exact absurd (by rw [b1]; decide) e1
  · have a : jg_a d h i = k := by unfold jg_a; rw [b1, pp_cl (by omega)]; rfl
    rw [a]
    have e : L' = L := (pp_eq (by omega) (by omega)).mp (z.symm.trans l22)
    refine ⟨by omega, b1, b2, fun s hs => ?_⟩
    unfold mm_cw
    rw [hc', b1, Bool.true_and]
    exact decide_eq_decide.mpr ((pp_eq (by omega) (by omega)).trans ⟨fun q => by omega, fun q => by omega⟩)
theorem jg_q_le {d : hh_S} {S : Nat → Nat → Nat} {ni h L t s i : Nat} (B : jg_B d ni S) (hi : i < ni) (ht : t < L) : jg_q d S h L t s i ≤ 1000000 := by
  unfold jg_q
  split
  · rename_i q
    exact B i hi t (by rw [q.1]; exact ht)
  · exact Nat.zero_le _
theorem jg_u_b {ns ni nh : Nat} {c d : hh_S} {S : Nat → Nat → Nat} {h L t s n : Nat} (R : rr_C ns ni nh c d) (B : jg_B d ni S) (hn : n ≤ ni) (ht : t < L) : 10000 ≤ jg_u d S h L t s n ∧ jg_u d S h L t s n ≤ 25000000 := by
  have h24 := R.2.1.1
  obtain ⟨⟨v, v1, v2, -, -, v3⟩, -⟩ := jg_rules R
  unfold jg_u
  rw [v3]
  have := fb_sm_bound (f := jg_q d S h L t s) (c := 1000000) (n := n) (fun k hk => jg_q_le B (by omega) ht)
  have h2 : n * 1000000 ≤ 24 * 1000000 := Nat.mul_le_mul_right _ (by omega)
  omega
theorem jg_l_b {ns ni nh : Nat} {c d : hh_S} {S : Nat → Nat → Nat} {h L t j : Nat} (R : rr_C ns ni nh c d) (B : jg_B d ni S) (ht : t < L) (hj : j ≤ 4) : fb_sm (fun s => jg_u d S h L t s ni) j ≤ 100000000 := by
  have := fb_sm_bound (f := fun s => jg_u d S h L t s ni) (c := 25000000) (n := j) (fun k _ => (jg_u_b R B (Nat.le_refl _) ht).2)
  have h2 : j * 25000000 ≤ 4 * 25000000 := Nat.mul_le_mul_right _ hj
  omega
theorem jg_l_in {ns ni nh : Nat} {c d : hh_S} {S : Nat → Nat → Nat} {h L t s : Nat} (R : rr_C ns ni nh c d) (B : jg_B d ni S) (ht : t < L) (hs : s < L) : jg_u d S h L t s ni ≤ fb_sm (fun s => jg_u d S h L t s ni) L ∧ 10000 ≤ fb_sm (fun s => jg_u d S h L t s ni) L := by
  have := fb_sm_part (fun s => jg_u d S h L t s ni) hs
  have h2 := (jg_u_b (h := h) (s := s) R B (Nat.le_refl _) ht).1
  omega
theorem jg_t_b {ns ni nh : Nat} {c d : hh_S} {S : Nat → Nat → Nat} {h L t s : Nat} (R : rr_C ns ni nh c d) (B : jg_B d ni S) (ht : t < L) (hs : s < L) : jg_t d S ni h L t s ≤ 1000 := by
  obtain ⟨h1, h2⟩ := jg_l_in (h := h) R B ht hs
  unfold jg_t
  exact Nat.div_le_of_le_mul (by rw [Nat.mul_comm]; exact Nat.mul_le_mul_right _ h1)
def jg_TB (T : Nat → Nat → Nat → Nat → Nat) : Prop := ∀ h L t s, t < L → s < L → T h L t s ≤ 1000
theorem jg_w_b {T o : Nat → Nat} {L l : Nat} (ho : ∀ k, k < L → o k ≤ 1000000) (hl : l < L) : jg_w T L o l ≤ 1000000 := by
  unfold jg_w
  split
  · exact ho l hl
  · rename_i e
    have := fb_sm_part (fun k => o k * T k) hl
    refine Nat.div_le_of_le_mul ?_
    exact Nat.mul_le_mul_right _ (by omega)
theorem jg_o_b {d : hh_S} {T : Nat → Nat → Nat → Nat → Nat} {i : Nat} : ∀ h l, l < mm_L d i → jg_o d T i h l ≤ 1000000
  | 0, l, _ => Nat.div_le_self _ _
  | h + 1, l, hl => by
    unfold jg_o
    split
    · exact jg_w_b (fun k hk => jg_o_b h k hk) hl
    · exact jg_o_b h l hl
theorem jg_all_b {T o : Nat → Nat} {L j : Nat} (ho : ∀ k, k < L → o k ≤ 1000000) (hT : ∀ k, k < L → T k ≤ 1000) (hj : j ≤ L) (hL : L ≤ 4) : fb_sm (fun k => o k * T k) j ≤ 4000000000 := by
  have := fb_sm_bound (f := fun k => o k * T k) (c := 1000000000) (n := j) (fun k hk => Nat.mul_le_mul (ho k (by omega)) (hT k (by omega)))
  have h2 : j * 1000000000 ≤ 4 * 1000000000 := Nat.mul_le_mul_right _ (by omega)
  omega
theorem mm_cw_le (d : hh_S) (nh i l : Nat) : fb_ct (mm_cw d i l) nh ≤ jg_n d nh i := fb_ct_sub (fun k _ hk => by unfold mm_cw at hk; rw [Bool.and_eq_true] at hk; exact hk.1)
theorem jg_0_b {d : hh_S} {nh i l : Nat} : jg_0 d nh i l ≤ 1000000 := by
  unfold jg_0
  split
  · split
    · exact Nat.div_le_self _ _
    · exact Nat.div_le_of_le_mul (by rw [Nat.mul_comm]; exact Nat.mul_le_mul_right _ (mm_cw_le d nh i l))
  · split
    · exact Nat.le_refl _
    · exact Nat.zero_le _
theorem jg_x_b {d : hh_S} {T : Nat → Nat → Nat → Nat → Nat} {S : Nat → Nat → Nat} {ni nh : Nat} (B : jg_B d ni S) : jg_B d ni (jg_x d T S nh) := by
  intro i hi l hl
  unfold jg_x
  split
  · exact jg_o_b nh l hl
  · exact B i hi l hl
theorem jg_s_b {d : hh_S} {ni nh : Nat} : ∀ k, jg_B d ni (jg_s d ni nh k)
  | 0 => fun _ _ _ _ => jg_0_b
  | k + 1 => jg_x_b (jg_s_b k)
theorem jg_k_b {a b : Nat} (ha : a ≤ 1000000) (hb : b ≤ 1000000) : jg_k a b ≤ 1000000 := by
  unfold jg_k
  split <;> omega
theorem jg_y_b {o S : Nat → Nat} {a : Nat} (ha : a ≤ 1000000) : ∀ n, (∀ l, l < n → o l ≤ 1000000) → (∀ l, l < n → S l ≤ 1000000) → jg_y o S a n ≤ 1000000
  | 0, _, _ => ha
  | n + 1, h1, h2 => by
    unfold jg_y
    split
    · exact jg_k_b (h1 n (by omega)) (h2 n (by omega))
    · exact jg_y_b ha n (fun l hl => h1 l (by omega)) (fun l hl => h2 l (by omega))
theorem jg_y_0 {o S : Nat → Nat} {a : Nat} : ∀ n, jg_y o S a n = if a < jg_y o S 0 n then jg_y o S 0 n else a
  | 0 => by
    show a = if a < 0 then 0 else a
    rw [if_neg (by omega)]
  | n + 1 => by
    have ih := jg_y_0 (o := o) (S := S) (a := a) n
    unfold jg_y
    rw [ih]
    generalize jg_y o S 0 n = y
    generalize jg_k (o n) (S n) = k
    by_cases h1 : a < y
    · rw [if_pos h1]
      by_cases h2 : y < k
      · rw [if_pos h2, if_pos (by omega)]
      · rw [if_neg h2, if_pos h1]
    · rw [if_neg h1]
      by_cases h2 : y < k
      · rw [if_pos h2]
      · rw [if_neg h2, if_neg (by omega), if_neg h1]
theorem jg_z_b {d : hh_S} {T : Nat → Nat → Nat → Nat → Nat} {S : Nat → Nat → Nat} {ni nh : Nat} (B : jg_B d ni S) : ∀ n, n ≤ ni → jg_z d T S nh n ≤ 1000000
  | 0, _ => Nat.zero_le _
  | n + 1, h => by
    unfold jg_z
    split
    · exact jg_y_b (jg_z_b B n (by omega)) _ (fun l hl => jg_o_b nh l hl) (fun l hl => B n (by omega) l hl)
    · exact jg_z_b B n (by omega)
