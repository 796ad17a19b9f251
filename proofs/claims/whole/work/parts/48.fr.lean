/-! ===== reading a TASK: class and model, a sign at a time ===== -/
theorem s7_goT {y : Int32} {σ : hh_S} {Q : Int32 → hh_S → Prop} (q : Q 1 (hh_uI σ 67 y)) : wp_X7_goesOn 1 y σ Q := by
  unfold wp_X7_goesOn
  refine pp_f (by decide) ?_
  rintro σ3 rfl
  exact ⟨rfl, q⟩
theorem s7_goF {y : Int32} {σ : hh_S} {Q : Int32 → hh_S → Prop} (q : Q 0 σ) : wp_X7_goesOn 0 y σ Q := by
  unfold wp_X7_goesOn
  exact pp_t rfl ⟨rfl, q⟩
theorem s7_name {r : Nat} {x : Int32} {p : Nat → Bool} {σ : hh_S} {Q : Int32 → hh_S → Prop} (hr : r ≤ 7) (h192 : σ.1 192 = nI r) (hp : ∀ j, j < r → decide (hh_a σ 15 j = x) = p j) (q0 : (pp_ix x 8 = false ∨ fa_first p r < r) → Q 0 σ) (q1 : ∀ j, j < 8 → x = nI j → ¬ fa_first p r < r → ∀ c' : hh_S, (∀ k, k ≠ 192 → k ≠ 67 → k ≠ 68 → k ≠ 69 → k ≠ 70 → c'.1 k = σ.1 k) → c'.1 68 = nI r → c'.1 192 = nI (r + 1) → c'.1 69 = -1 → c'.1 70 = 0 → c'.1 67 = 1 → (∀ k, k ≠ 15 → k ≠ 16 → k ≠ 17 → k ≠ 18 → c'.2.2.1 k = σ.2.2.1 k) → (∀ k i, i < r → hh_a c' k i = hh_a σ k i) → hh_a c' 15 r = nI j → hh_a c' 16 r = 2 → hh_a c' 17 r = 0 → hh_a c' 18 r = 0 → Q 1 c') : wp_X7_takesName x σ Q := by
  unfold wp_X7_takesName
  cases e : pp_ix x 8
  · rcases pp_ix_f e (by omega) with w | w
    · exact pp_t w (q0 (Or.inl e))
    · by_cases w0 : x < 0
      · exact pp_t w0 (q0 (Or.inl e))
      · exact pp_f w0 (pp_t w (q0 (Or.inl e)))
  · obtain ⟨j, hj, rfl⟩ := pp_ix_t e (by omega)
    refine pp_f (pp_p0 (by omega)) (pp_f (fun w => by have := (pp_le (a := 8) (by omega) (by omega)).mp w; omega) ?_)
    show (8 ≤ σ.1 192 → _) ∧ (¬ 8 ≤ σ.1 192 → wp_X6_named (nI j) (σ.1 192) σ _)
    rw [h192]
    refine pp_f (fun w => by have := (pp_le (a := 8) (by omega) (by omega)).mp w; omega) (s6_named (p := p) (by omega) hp ?_)
    refine pp_c _ (pp_fi_6 (by omega)) (fun w => ?_) (fun w => q0 (Or.inr (Classical.not_not.mp w)))
    intro σ7 e7
    have a7 : σ7.1 192 = nI r := by rw [e7]; exact h192
    have b7 : σ7.1 68 = nI r := by rw [e7]; exact h192
    unfold wp_X6_add
    show vp_in (σ7.1 192) 8 ∧ ∀ σ2 : hh_S, σ2 = hh_sA σ7 15 (σ7.1 192) _ → (vp_in (σ2.1 192) 8 ∧ ∀ σ4 : hh_S, σ4 = hh_sA σ2 16 (σ2.1 192) _ → (vp_in (σ4.1 192) 8 ∧ ∀ σ6 : hh_S, σ6 = hh_sA σ4 17 (σ4.1 192) _ → (vp_in (σ6.1 192) 8 ∧ ∀ σ8 : hh_S, σ8 = hh_sA σ6 18 (σ6.1 192) _ → (∀ σ9 : hh_S, σ9 = hh_uI σ8 192 (σ8.1 192 + 1) → _))))
    have I : vp_in (nI r) 8 := pp_in (by omega) (by omega)
    rw [a7]
    refine ⟨I, ?_⟩
    intro s2 f2
    rw [show s2.1 192 = nI r by rw [f2]; exact a7]
    refine ⟨I, ?_⟩
    intro s4 f4
    rw [show s4.1 192 = nI r by rw [f4, f2]; exact a7]
    refine ⟨I, ?_⟩
    intro s6 f6
    rw [show s6.1 192 = nI r by rw [f6, f4, f2]; exact a7]
    refine ⟨I, ?_⟩
    intro s8 f8
    rw [show s8.1 192 = nI r by rw [f8, f6, f4, f2]; exact a7, show nI r + 1 = nI (r + 1) from nI_1 r]
    intro s9 f9
    have s81 : s8.1 = σ7.1 := by rw [f8, f6, f4, f2]; rfl
    intro s10 f10 s11 f11
    refine s7_goT ⟨rfl, ?_⟩
    refine q1 j hj rfl w _ ?_ ?_ ?_ ?_ ?_ ?_ ?_ ?_ ?_ ?_ ?_ ?_
    · intro k k1 k2 k3 k4 k5
      rw [f11, f10, f9]
      show (if k = 67 then _ else if k = 70 then _ else if k = 69 then _ else if k = 192 then _ else s8.1 k) = _
      rw [if_neg k2, if_neg k5, if_neg k4, if_neg k1, s81, e7]
      exact if_neg k3
    · rw [f11, f10, f9]; show s8.1 68 = _; rw [s81]; exact b7
    · rw [f11, f10, f9]; rfl
    · rw [f11, f10]; rfl
    · rw [f11]; rfl
    · rfl
    · intro k k1 k2 k3 k4
      rw [f11, f10, f9]
      show s8.2.2.1 k = _
      rw [f8, pp_sA_f k4, f6, pp_sA_f k3, f4, pp_sA_f k2, f2, pp_sA_f k1, e7]
      rfl
    · intro k i hi
      rw [f11, f10, f9]
      show hh_a s8 k i = _
      rw [f8, pp_sA_a (by omega), if_neg (fun y => by omega), f6, pp_sA_a (by omega), if_neg (fun y => by omega), f4, pp_sA_a (by omega), if_neg (fun y => by omega), f2, pp_sA_a (by omega), if_neg (fun y => by omega), e7]
      rfl
    · rw [f11, f10, f9]
      show hh_a s8 15 r = _
      rw [f8, pp_sA_n (by omega), f6, pp_sA_n (by omega), f4, pp_sA_n (by omega), f2, pp_sA_a (by omega), if_pos ⟨rfl, rfl⟩]
    · rw [f11, f10, f9]
      show hh_a s8 16 r = _
      rw [f8, pp_sA_n (by omega), f6, pp_sA_n (by omega), f4, pp_sA_a (by omega), if_pos ⟨rfl, rfl⟩]
    · rw [f11, f10, f9]
      show hh_a s8 17 r = _
      rw [f8, pp_sA_n (by omega), f6, pp_sA_a (by omega), if_pos ⟨rfl, rfl⟩]
    · rw [f11, f10, f9]
      show hh_a s8 18 r = _
      rw [f8, pp_sA_a (by omega), if_pos ⟨rfl, rfl⟩]
theorem s7_need {r : Nat} {x la : Int32} {p : Nat → Bool} {σ : hh_S} {Q : Int32 → hh_S → Prop} (hr : r ≤ 7) (h68 : σ.1 68 = nI r) (h69 : σ.1 69 = la) (hp : ∀ j, j < r → decide (hh_a σ 15 j = x) = p j) (q0 : ¬ (¬ x ≤ la ∧ fa_first p r < r) → Q 0 σ) (q1 : ¬ x ≤ la → fa_first p r < r → Q 1 (hh_uI (hh_uI (hh_sA σ 17 (nI r) (hh_a σ 17 r ||| ((1 : Int32) <<< (nI (fa_first p r) &&& 31)))) 69 x) 67 6)) : wp_X7_takesNeed x σ Q := by
  unfold wp_X7_takesNeed
  show wp_X6_named x (σ.1 68) σ _
  rw [h68]
  refine s6_named (p := p) (by omega) hp ?_
  refine pp_c _ (pp_fi_6 (by omega)) (fun w => q0 (fun z => w z.2)) (fun w => ?_)
  have w := Classical.not_not.mp w
  rw [show pp_fi p r = nI (fa_first p r) from if_pos w]
  show (σ.1 69 < x → (vp_in (σ.1 68) 8 ∧ (vp_in (σ.1 68) 8 ∧ ∀ σ7 : hh_S, σ7 = hh_sA σ 17 (σ.1 68) ((hh_rA σ 17 (σ.1 68)) ||| _) → _))) ∧ (¬ σ.1 69 < x → _)
  rw [h68, h69, pp_rA (by omega)]
  refine pp_c (¬ x ≤ la) pp_nle.symm (fun w2 => ⟨pp_in (by omega) (by omega), pp_in (by omega) (by omega), ?_⟩) (fun w2 => q0 (fun z => w2 z.1))
  rintro σ1 rfl σ2 rfl
  exact s7_goT ⟨rfl, q1 w2 w⟩
theorem s7_labels {r : Nat} {x : Int32} {σ : hh_S} {Q : Int32 → hh_S → Prop} (hr : r ≤ 7) (h68 : σ.1 68 = nI r) (q0 : (¬ ∃ j, j ≤ 2 ∧ x = nI (2 + j)) → Q 0 σ) (q1 : ∀ j, j ≤ 2 → x = nI (2 + j) → Q 1 (hh_uI (hh_sA σ 16 (nI r) (nI (2 + j))) 67 4)) : wp_X7_takesLabels x σ Q := by
  unfold wp_X7_takesLabels
  have I : vp_in (nI r) 8 := pp_in (by omega) (by omega)
  show (x < 2 → _) ∧ (¬ x < 2 → ((x ≤ 4 → (vp_in (σ.1 68) 8 ∧ ∀ σ4 : hh_S, σ4 = hh_sA σ 16 (σ.1 68) x → _)) ∧ (¬ x ≤ 4 → _)))
  rw [h68, show (2 : Int32) = nI 2 from rfl, show (4 : Int32) = nI 4 from rfl]
  refine ⟨fun w => q0 ?_, fun w => ⟨fun w2 => ⟨I, ?_⟩, fun w2 => q0 ?_⟩⟩
  · rintro ⟨j, hj, rfl⟩
    have := (pp_lt (by omega) (by omega)).mp w
    omega
  · rw [fa_lt, nI_toInt (by omega)] at w
    rw [fa_le, nI_toInt (by omega)] at w2
    obtain ⟨v, hv, rfl⟩ : ∃ v, v < 2147483648 ∧ x = nI v := ⟨x.toInt.toNat, by omega, by rw [fa_eq, nI_toInt (by omega)]; omega⟩
    rw [nI_toInt hv] at w w2
    rintro σ4 rfl
    have := q1 (v - 2) (by omega) (by rw [show 2 + (v - 2) = v by omega])
    rw [show 2 + (v - 2) = v by omega] at this
    exact s7_goT ⟨rfl, this⟩
  · rintro ⟨j, hj, rfl⟩
    exact w2 ((pp_le (by omega) (by omega)).mpr (by omega))
theorem s7_digit {r g : Nat} {x : Int32} {σ : hh_S} {Q : Int32 → hh_S → Prop} (hr : r ≤ 7) (h68 : σ.1 68 = nI r) (h70 : σ.1 70 = nI g) (hg : g ≤ 3) (q0 : (¬ ((∃ j, j ≤ 9 ∧ x = nI (0 + j)) ∧ g < 3)) → Q 0 σ) (q1 : ∀ j, j ≤ 9 → x = nI (0 + j) → g < 3 → Q 1 (hh_uI (hh_uI (hh_sA σ 18 (nI r) (hh_a σ 18 r * 10 + x)) 70 (nI (g + 1))) 67 8)) : wp_X7_takesDigit x σ Q := by
  unfold wp_X7_takesDigit
  have I : vp_in (nI r) 8 := pp_in (by omega) (by omega)
  show (x < 0 → _) ∧ (¬ x < 0 → ((9 < x → _) ∧ (¬ 9 < x → ((σ.1 70 < 3 → (vp_in (σ.1 68) 8 ∧ (vp_in (σ.1 68) 8 ∧ ∀ σ6 : hh_S, σ6 = hh_sA σ 18 (σ.1 68) (((hh_rA σ 18 (σ.1 68)) * 10) + x) → _))) ∧ (¬ σ.1 70 < 3 → _)))))
  rw [h68, h70, pp_rA (by omega)]
  refine ⟨fun w => q0 ?_, fun w => ⟨fun w2 => q0 ?_, fun w2 => ?_⟩⟩
  · rintro ⟨⟨j, hj, rfl⟩, -⟩
    exact pp_p0 (by omega) w
  · rintro ⟨⟨j, hj, rfl⟩, -⟩
    have := (pp_lt (a := 9) (by omega) (by omega)).mp w2
    omega
  · have z0 : (0 : Int32).toInt = 0 := by decide
    have z9 : (9 : Int32).toInt = 9 := by decide
    rw [fa_lt, z0] at w
    rw [fa_lt, z9] at w2
    obtain ⟨v, hv, rfl⟩ : ∃ v, v < 2147483648 ∧ x = nI v := ⟨x.toInt.toNat, by omega, by rw [fa_eq, nI_toInt (by omega)]; omega⟩
    rw [nI_toInt hv] at w w2
    refine pp_c _ (pp_lt (b := 3) (by omega) (by omega)) (fun w3 => ⟨I, I, ?_⟩) (fun w3 => q0 (fun z => w3 z.2))
    intro σ6 e6 σ7 e7
    have a : σ6.1 70 + 1 = nI (g + 1) := by rw [e6]; show σ.1 70 + 1 = _; rw [h70]; exact nI_1 g
    have e7 : σ7 = hh_uI σ6 70 (nI (g + 1)) := by rw [e7]; exact congrArg (hh_uI σ6 70) a
    have := q1 v (by omega) (by rw [show 0 + v = v by omega]) w3
    rw [← e6, ← e7] at this
    exact s7_goT ⟨rfl, this⟩
theorem s7_t0 {x : Int32} {σ : hh_S} {Q : Int32 → hh_S → Prop} (hz : σ.1 67 = nI 0) (q : wp_X7_takesName (x - 97) σ (fun r2 σ3 => (narrow .boolean (.int r2) = .int r2) ∧ Q r2 σ3)) : wp_X7_takes x σ Q := by
  unfold wp_X7_takes
  rw [show hh_I σ 67 = nI 0 from hz]
  exact ⟨fun _ => q, fun w => absurd w (by decide), fun w => absurd w (by decide), fun w => absurd w (by decide), fun w => absurd w (by decide), fun w => absurd w (by decide), fun w => absurd w (by decide), fun w => absurd w (by decide), fun w => absurd w (by decide)⟩
theorem s7_t1 {x : Int32} {σ : hh_S} {Q : Int32 → hh_S → Prop} (hz : σ.1 67 = nI 1) (q : (¬ x = 58 → Q 0 σ) ∧ (x = 58 → Q 1 (hh_uI σ 67 2))) : wp_X7_takes x σ Q := by
  unfold wp_X7_takes
  rw [show hh_I σ 67 = nI 1 from hz]
  exact ⟨fun w => absurd w (by decide), fun _ => ⟨fun w => s7_goF ⟨rfl, q.1 w⟩, fun w => s7_goT ⟨rfl, q.2 w⟩⟩, fun w => absurd w (by decide), fun w => absurd w (by decide), fun w => absurd w (by decide), fun w => absurd w (by decide), fun w => absurd w (by decide), fun w => absurd w (by decide), fun w => absurd w (by decide)⟩
theorem s7_t2 {x : Int32} {σ : hh_S} {Q : Int32 → hh_S → Prop} (hz : σ.1 67 = nI 2) (q : (¬ x = 67 → (x = 75 → Q 1 (hh_uI σ 67 4)) ∧ (¬ x = 75 → ((¬ x = 79 → Q 0 σ) ∧ (x = 79 → Q 1 (hh_uI σ 67 4))))) ∧ (x = 67 → Q 1 (hh_uI σ 67 3))) : wp_X7_takes x σ Q := by
  unfold wp_X7_takes
  rw [show hh_I σ 67 = nI 2 from hz]
  exact ⟨fun w => absurd w (by decide), fun w => absurd w (by decide), fun _ => ⟨fun w => ⟨fun w2 => s7_goT ⟨rfl, (q.1 w).1 w2⟩, fun w2 => ⟨fun w3 => s7_goF ⟨rfl, ((q.1 w).2 w2).1 w3⟩, fun w3 => s7_goT ⟨rfl, ((q.1 w).2 w2).2 w3⟩⟩⟩, fun w => s7_goT ⟨rfl, q.2 w⟩⟩, fun w => absurd w (by decide), fun w => absurd w (by decide), fun w => absurd w (by decide), fun w => absurd w (by decide), fun w => absurd w (by decide), fun w => absurd w (by decide)⟩
theorem s7_t3 {x : Int32} {σ : hh_S} {Q : Int32 → hh_S → Prop} (hz : σ.1 67 = nI 3) (q : wp_X7_takesLabels (x - 48) σ (fun r2 σ3 => (narrow .boolean (.int r2) = .int r2) ∧ Q r2 σ3)) : wp_X7_takes x σ Q := by
  unfold wp_X7_takes
  rw [show hh_I σ 67 = nI 3 from hz]
  exact ⟨fun w => absurd w (by decide), fun w => absurd w (by decide), fun w => absurd w (by decide), fun _ => q, fun w => absurd w (by decide), fun w => absurd w (by decide), fun w => absurd w (by decide), fun w => absurd w (by decide), fun w => absurd w (by decide)⟩
theorem s7_t4 {x : Int32} {σ : hh_S} {Q : Int32 → hh_S → Prop} (hz : σ.1 67 = nI 4) (q : (¬ x = 60 → ((¬ x = 33 → Q 0 σ) ∧ (x = 33 → Q 1 (hh_uI σ 67 7)))) ∧ (x = 60 → ((σ.1 68 ≤ 0 → Q 0 σ) ∧ (¬ σ.1 68 ≤ 0 → Q 1 (hh_uI σ 67 5))))) : wp_X7_takes x σ Q := by
  unfold wp_X7_takes
  rw [show hh_I σ 67 = nI 4 from hz]
  exact ⟨fun w => absurd w (by decide), fun w => absurd w (by decide), fun w => absurd w (by decide), fun w => absurd w (by decide), fun _ => ⟨fun w => ⟨fun w2 => s7_goF ⟨rfl, (q.1 w).1 w2⟩, fun w2 => s7_goT ⟨rfl, (q.1 w).2 w2⟩⟩, fun w => ⟨fun w2 => s7_goF ⟨rfl, (q.2 w).1 w2⟩, fun w2 => s7_goT ⟨rfl, (q.2 w).2 w2⟩⟩⟩, fun w => absurd w (by decide), fun w => absurd w (by decide), fun w => absurd w (by decide), fun w => absurd w (by decide)⟩
theorem s7_t5 {x : Int32} {σ : hh_S} {Q : Int32 → hh_S → Prop} (hz : σ.1 67 = nI 5) (q : wp_X7_takesNeed (x - 97) σ (fun r2 σ3 => (narrow .boolean (.int r2) = .int r2) ∧ Q r2 σ3)) : wp_X7_takes x σ Q := by
  unfold wp_X7_takes
  rw [show hh_I σ 67 = nI 5 from hz]
  exact ⟨fun w => absurd w (by decide), fun w => absurd w (by decide), fun w => absurd w (by decide), fun w => absurd w (by decide), fun w => absurd w (by decide), fun _ => q, fun w => absurd w (by decide), fun w => absurd w (by decide), fun w => absurd w (by decide)⟩
theorem s7_t6 {x : Int32} {σ : hh_S} {Q : Int32 → hh_S → Prop} (hz : σ.1 67 = nI 6) (q : (¬ x = 33 → wp_X7_takesNeed (x - 97) σ (fun r2 σ3 => (narrow .boolean (.int r2) = .int r2) ∧ Q r2 σ3)) ∧ (x = 33 → Q 1 (hh_uI σ 67 7))) : wp_X7_takes x σ Q := by
  unfold wp_X7_takes
  rw [show hh_I σ 67 = nI 6 from hz]
  exact ⟨fun w => absurd w (by decide), fun w => absurd w (by decide), fun w => absurd w (by decide), fun w => absurd w (by decide), fun w => absurd w (by decide), fun w => absurd w (by decide), fun _ => ⟨fun w => q.1 w, fun w => s7_goT ⟨rfl, q.2 w⟩⟩, fun w => absurd w (by decide), fun w => absurd w (by decide)⟩
theorem s7_t7 {x : Int32} {σ : hh_S} {Q : Int32 → hh_S → Prop} (hz : σ.1 67 = nI 7) (q : wp_X7_takesDigit (x - 48) σ (fun r2 σ3 => (narrow .boolean (.int r2) = .int r2) ∧ Q r2 σ3)) : wp_X7_takes x σ Q := by
  unfold wp_X7_takes
  rw [show hh_I σ 67 = nI 7 from hz]
  exact ⟨fun w => absurd w (by decide), fun w => absurd w (by decide), fun w => absurd w (by decide), fun w => absurd w (by decide), fun w => absurd w (by decide), fun w => absurd w (by decide), fun w => absurd w (by decide), fun _ => q, fun w => absurd w (by decide)⟩
theorem s7_t8 {x : Int32} {σ : hh_S} {Q : Int32 → hh_S → Prop} (hz : σ.1 67 = nI 8) (q : (¬ x = 59 → wp_X7_takesDigit (x - 48) σ (fun r2 σ3 => (narrow .boolean (.int r2) = .int r2) ∧ Q r2 σ3)) ∧ (x = 59 → ((8 ≤ σ.1 192 → Q 0 σ) ∧ (¬ 8 ≤ σ.1 192 → Q 1 (hh_uI σ 67 0))))) : wp_X7_takes x σ Q := by
  unfold wp_X7_takes
  rw [show hh_I σ 67 = nI 8 from hz]
  exact ⟨fun w => absurd w (by decide), fun w => absurd w (by decide), fun w => absurd w (by decide), fun w => absurd w (by decide), fun w => absurd w (by decide), fun w => absurd w (by decide), fun w => absurd w (by decide), fun w => absurd w (by decide), fun _ => ⟨fun w => q.1 w, fun w => ⟨fun w2 => s7_goF ⟨rfl, (q.2 w).1 w2⟩, fun w2 => s7_goT ⟨rfl, (q.2 w).2 w2⟩⟩⟩⟩
