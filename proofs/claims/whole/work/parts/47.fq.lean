/-! ===== reading a TASK: the model's side, a sign at a time ===== -/
theorem mq_439T {K : Int32 → Int32 → Int32 → hh_S → Prop} {la : Int32} {k t : Nat} {Q : Int32 → hh_S → Prop} {τ : hh_S} (ht : t ≤ 10) (h : K (nI t) la (nI (k + 1)) τ) : wq_X9_faultOf_439 K la (nI k) (nI t) Q τ := by
  unfold wq_X9_faultOf_439
  rw [show nI k + 1 = nI (k + 1) from nI_1 k]
  exact pp_t (nI_pos' (by omega)) h
theorem mq_439F {K : Int32 → Int32 → Int32 → hh_S → Prop} {la : Int32} {k : Nat} {Q : Int32 → hh_S → Prop} {τ : hh_S} (h : Q (nI k) τ) : wq_X9_faultOf_439 K la (nI k) (-6) Q τ := pp_f (by decide) h
theorem mq_344 {K : Int32 → Int32 → Int32 → hh_S → Prop} {la x3 x4 x5 x6 : Int32} {s : Nat} {Q : Int32 → hh_S → Prop} {τ : hh_S} (hs : s ≤ 6) (h : wq_X9_faultOf_439 K la x3 x6 Q τ) : wq_X9_faultOf_344 K (nI s) la x3 x4 x5 x6 Q τ := by
  unfold wq_X9_faultOf_344
  refine s9_inF (fun w => w.1 ((pp_lt (b := 7) (by omega) (by omega)).mpr (by omega))) (pp_t rfl ?_)
  unfold wq_X9_faultOf_401
  exact s9_inF (fun w => w.1 ((pp_lt (b := 8) (by omega) (by omega)).mpr (by omega))) (pp_t rfl h)
theorem mq_260 {K : Int32 → Int32 → Int32 → hh_S → Prop} {la x3 x4 x5 x6 : Int32} {s : Nat} {Q : Int32 → hh_S → Prop} {τ : hh_S} (hs : s ≤ 4) (h : wq_X9_faultOf_439 K la x3 x6 Q τ) : wq_X9_faultOf_260 K (nI s) la x3 x4 x5 x6 Q τ := by
  have A : wq_X9_faultOf_344 K (nI s) la x3 x4 x5 x6 Q τ := mq_344 (by omega) h
  unfold wq_X9_faultOf_260
  by_cases e : (0 : Int32) ≤ x6
  · exact pp_t e A
  · refine pp_f e (pp_f (fun w => ?_) (pp_nf (fun w => ?_) A))
    · have := (pp_eq (b := 5) (by omega) (by omega)).mp w
      omega
    · have := (pp_eq (b := 6) (by omega) (by omega)).mp w
      omega
theorem mq_260b {K : Int32 → Int32 → Int32 → hh_S → Prop} {la x3 x4 x5 : Int32} {s t : Nat} {Q : Int32 → hh_S → Prop} {τ : hh_S} (hs : s ≤ 6) (ht : t ≤ 10) (h : wq_X9_faultOf_439 K la x3 (nI t) Q τ) : wq_X9_faultOf_260 K (nI s) la x3 x4 x5 (nI t) Q τ := by
  unfold wq_X9_faultOf_260
  exact pp_t (nI_pos' (by omega)) (mq_344 hs h)
theorem pf_named {n : Nat} {x : Int32} {p : Nat → Bool} {f : Nat → Int32} {Q : Int32 → hh_S → Prop} {τ : hh_S} {F : (Int32 → hh_S → Prop) → Int32 → hh_S → Prop} (hn : n ≤ 8) (hp : ∀ k, k < n → decide (f k = x) = p k) (hF : ∀ K j, j ≤ n → ((nI n ≤ nI j → Q (-6) τ) ∧ (¬ nI n ≤ nI j → (vp_in (nI j) 8 ∧ ((¬ f j = x → K (nI j + 1) τ) ∧ (f j = x → Q (nI j) τ))))) → F K (nI j) τ) (q : Q (pp_fi p n) τ) : ∃ m : Nat, hh_lp1 F m (0 : Int32) τ := by
  refine hh_lp1_i (fun b σ => ∃ j, j ≤ n ∧ b = nI j ∧ (∀ k, k < j → p k = false) ∧ τ = σ) (fun b σ => n - b.toNatClampNeg) ?_ ⟨0, Nat.zero_le _, rfl, fun k hk => absurd hk (Nat.not_lt_zero k), rfl⟩
  rintro K b σ ⟨j, hj, rfl, hf, rfl⟩ hK
  refine hF K j hj ?_
  refine pp_c _ (pp_le (by omega) (by omega)) (fun e => ?_) (fun e => ⟨pp_in (by omega) (by omega), ?_⟩)
  · have e : j = n := by omega
    subst e
    unfold pp_fi at q
    rw [pp_first_none hf, if_neg (by omega)] at q
    exact q
  · have pj := hp j (by omega)
    by_cases e1 : f j = x
    · rw [decide_eq_true e1] at pj
      refine pp_nt e1 ?_
      unfold pp_fi at q
      rw [pp_first_is (k := j) (by omega) pj.symm hf, if_pos (by omega)] at q
      exact q
    · rw [decide_eq_false e1] at pj
      refine pp_nf e1 ?_
      rw [show nI j + 1 = nI (j + 1) from nI_1 j]
      refine hK _ _ ⟨j + 1, by omega, rfl, fun k hk => ?_, rfl⟩ (by rw [pp_cl (by omega), pp_cl (by omega)]; omega)
      by_cases e3 : k = j
      · rw [e3]; exact pj.symm
      · exact hf k (by omega)
theorem s6_named {n : Nat} {x : Int32} {p : Nat → Bool} {Q : Int32 → hh_S → Prop} {σ : hh_S} (hn : n ≤ 8) (hp : ∀ k, k < n → decide (hh_a σ 15 k = x) = p k) (q : Q (pp_fi p n) σ) : wp_X6_named x (nI n) σ Q := by
  unfold wp_X6_named
  refine pf_named (f := hh_a σ 15) hn hp (fun K j hj h => ?_) q
  unfold wq_X6_named_2
  rw [pp_rA (by omega)]
  exact h
theorem s9_named {n : Nat} {x : Int32} {p : Nat → Bool} {Q : Int32 → hh_S → Prop} {σ : hh_S} (hn : n ≤ 8) (hp : ∀ k, k < n → decide (hh_a σ 21 k = x) = p k) (q : Q (pp_fi p n) σ) : wp_X9_named x (nI n) σ Q := by
  unfold wp_X9_named
  refine pf_named (f := hh_a σ 21) hn hp (fun K j hj h => ?_) q
  unfold wq_X9_named_2
  rw [pp_rA (by omega)]
  exact h
theorem pf_off {x : Int32} {a b lo n : Nat} (ha : a < 1000) (hb : b < 1000) (hlo : lo < 1000) (hn : n < 1000) (hab : b + lo = a) : (¬ x < nI a ∧ ¬ nI (a + n) < x) ↔ ∃ j, j ≤ n ∧ x = nI (a + j) ∧ x - nI b = nI (lo + j) := by
  constructor
  · rintro ⟨h1, h2⟩
    rw [fa_lt, nI_toInt (by omega)] at h1 h2
    obtain ⟨v, hv, rfl⟩ : ∃ v, v < 2147483648 ∧ x = nI v := ⟨x.toInt.toNat, by omega, by rw [fa_eq, nI_toInt (by omega)]; omega⟩
    rw [nI_toInt hv] at h1 h2
    refine ⟨v - a, by omega, by rw [show a + (v - a) = v by omega], ?_⟩
    rw [pk_sub (by omega)]
    congr 1
    omega
  · rintro ⟨j, hj, rfl, -⟩
    rw [pp_lt (by omega) (by omega), pp_lt (by omega) (by omega)]
    omega
theorem pf_sub {x : Int32} {a b lo j : Nat} (hab : b + lo = a) (h : x - nI b = nI (lo + j)) : x = nI (a + j) := by
  have : x = (x - nI b) + nI b := (Int32.sub_add_cancel x (nI b)).symm
  rw [this, h, nI_add]
  congr 1
  omega

theorem mq_s0F {K : Int32 → Int32 → Int32 → hh_S → Prop} {la : Int32} {k sn r : Nat} {p : Nat → Bool} {Q : Int32 → hh_S → Prop} {τ : hh_S} (hk : k < sn) (hsn : sn ≤ 60) (h0 : τ.1 0 = nI sn) (h27 : τ.1 27 = nI r) (hr : r ≤ 7) (hp : ∀ j, j < r → decide (hh_a τ 21 j = hh_a τ 1 k - 97) = p j) (hx : ¬ (¬ hh_a τ 1 k < 97 ∧ ¬ 104 < hh_a τ 1 k) ∨ fa_first p r < r) (q : Q (nI k) τ) : wq_X9_faultOf_11 Q K (nI 0) la (nI k) τ := by
  unfold wq_X9_faultOf_11
  show (τ.1 0 ≤ nI k → _) ∧ (¬ τ.1 0 ≤ nI k → _)
  rw [h0]
  refine pp_f (fun w => by have := (pp_le (by omega) (by omega)).mp w; omega) ⟨pp_in (by omega) (by omega), ?_⟩
  rw [pp_rA (by omega)]
  rintro x rfl v hv
  have hv : v = nI r := hv.trans h27
  subst hv
  have R : wq_X9_faultOf_260 K (nI 0) la (nI k) (hh_a τ 1 k) (nI r) (-6) Q τ := mq_260 (by omega) (mq_439F q)
  refine pp_nt rfl ?_
  by_cases w : (¬ hh_a τ 1 k < 97 ∧ ¬ 104 < hh_a τ 1 k)
  · refine s9_inT w.1 w.2 (pp_f (by decide) (s9_named (p := p) (by omega) hp ?_))
    have w2 := hx.resolve_left (fun z => z w)
    refine pp_t ?_ R
    unfold pp_fi
    rw [if_pos w2]
    exact nI_pos' (by omega)
  · exact s9_inF w (pp_t rfl R)
theorem mq_s0T {K : Int32 → Int32 → Int32 → hh_S → Prop} {la : Int32} {k sn r j : Nat} {p : Nat → Bool} {Q : Int32 → hh_S → Prop} {τ : hh_S} (hk : k < sn) (hsn : sn ≤ 60) (h0 : τ.1 0 = nI sn) (h27 : τ.1 27 = nI r) (hr : r ≤ 7) (hp : ∀ j, j < r → decide (hh_a τ 21 j = hh_a τ 1 k - 97) = p j) (hx : ¬ hh_a τ 1 k < 97 ∧ ¬ 104 < hh_a τ 1 k) (hx2 : ¬ fa_first p r < r) (hj : hh_a τ 1 k - 97 = nI j) (q : K (nI 1) la (nI (k + 1)) (hh_sA (hh_sA τ 21 (nI r) (nI j)) 23 (nI r) 0)) : wq_X9_faultOf_11 Q K (nI 0) la (nI k) τ := by
  unfold wq_X9_faultOf_11
  show (τ.1 0 ≤ nI k → _) ∧ (¬ τ.1 0 ≤ nI k → _)
  rw [h0]
  refine pp_f (fun w => by have := (pp_le (by omega) (by omega)).mp w; omega) ⟨pp_in (by omega) (by omega), ?_⟩
  rw [pp_rA (by omega)]
  rintro x rfl v hv
  have hv : v = nI r := hv.trans h27
  subst hv
  refine pp_nt rfl (s9_inT hx.1 hx.2 (pp_f (by decide) (s9_named (p := p) (by omega) hp ?_)))
  refine pp_f ?_ ⟨pp_in (by omega) (by omega), ?_⟩
  · unfold pp_fi
    rw [if_neg hx2]
    decide
  · rw [hj]
    rintro τ1 rfl
    refine ⟨pp_in (by omega) (by omega), ?_⟩
    rintro τ2 rfl
    exact mq_260 (by omega) (mq_439T (t := 1) (by omega) q)
theorem mq_s1 {K : Int32 → Int32 → Int32 → hh_S → Prop} {la : Int32} {k sn : Nat} {Q : Int32 → hh_S → Prop} {τ : hh_S} (hk : k < sn) (hsn : sn ≤ 60) (h0 : τ.1 0 = nI sn) (q : (¬ hh_a τ 1 k = 58 → Q (nI k) τ) ∧ (hh_a τ 1 k = 58 → K (nI 2) la (nI (k + 1)) τ)) : wq_X9_faultOf_11 Q K (nI 1) la (nI k) τ := by
  unfold wq_X9_faultOf_11
  show (τ.1 0 ≤ nI k → _) ∧ (¬ τ.1 0 ≤ nI k → _)
  rw [h0]
  refine pp_f (fun w => by have := (pp_le (by omega) (by omega)).mp w; omega) ⟨pp_in (by omega) (by omega), ?_⟩
  rw [pp_rA (by omega)]
  rintro x rfl v hv
  refine pp_nf (by decide) (pp_nt rfl ⟨fun w => mq_260 (by omega) (mq_439F (q.1 w)), fun w => mq_260 (by omega) (mq_439T (t := 2) (by omega) (q.2 w))⟩)
theorem mq_s2 {K : Int32 → Int32 → Int32 → hh_S → Prop} {la : Int32} {k sn r : Nat} {Q : Int32 → hh_S → Prop} {τ : hh_S} (hk : k < sn) (hsn : sn ≤ 60) (h0 : τ.1 0 = nI sn) (h27 : τ.1 27 = nI r) (hr : r ≤ 7) (q : (¬ hh_a τ 1 k = 67 → (hh_a τ 1 k = 75 → K (nI 4) la (nI (k + 1)) (hh_sA τ 22 (nI r) 2)) ∧ (¬ hh_a τ 1 k = 75 → ((¬ hh_a τ 1 k = 79 → Q (nI k) (hh_sA τ 22 (nI r) 2)) ∧ (hh_a τ 1 k = 79 → K (nI 4) la (nI (k + 1)) (hh_sA τ 22 (nI r) 2))))) ∧ (hh_a τ 1 k = 67 → K (nI 3) la (nI (k + 1)) (hh_sA τ 22 (nI r) 2))) : wq_X9_faultOf_11 Q K (nI 2) la (nI k) τ := by
  unfold wq_X9_faultOf_11
  show (τ.1 0 ≤ nI k → _) ∧ (¬ τ.1 0 ≤ nI k → _)
  rw [h0]
  refine pp_f (fun w => by have := (pp_le (by omega) (by omega)).mp w; omega) ⟨pp_in (by omega) (by omega), ?_⟩
  rw [pp_rA (by omega)]
  rintro x rfl v hv
  have hv : v = nI r := hv.trans h27
  subst hv
  have I : vp_in (nI r) 8 := pp_in (by omega) (by omega)
  refine pp_nf (by decide) (pp_nf (by decide) (pp_nt rfl ⟨fun w => ⟨fun w2 => ⟨I, ?_⟩, fun w2 => ⟨fun w3 => ⟨I, ?_⟩, fun w3 => ⟨I, ?_⟩⟩⟩, fun w => ⟨I, ?_⟩⟩))
  · rintro τ1 rfl
    exact mq_260 (by omega) (mq_439T (t := 4) (by omega) ((q.1 w).1 w2))
  · rintro τ1 rfl
    exact mq_260 (by omega) (mq_439F (((q.1 w).2 w2).1 w3))
  · rintro τ1 rfl
    exact mq_260 (by omega) (mq_439T (t := 4) (by omega) (((q.1 w).2 w2).2 w3))
  · rintro τ1 rfl
    exact mq_260 (by omega) (mq_439T (t := 3) (by omega) (q.2 w))
theorem mq_s3 {K : Int32 → Int32 → Int32 → hh_S → Prop} {la : Int32} {k sn r : Nat} {Q : Int32 → hh_S → Prop} {τ : hh_S} (hk : k < sn) (hsn : sn ≤ 60) (h0 : τ.1 0 = nI sn) (h27 : τ.1 27 = nI r) (hr : r ≤ 7) (q : ((¬ hh_a τ 1 k < 50 ∧ ¬ 52 < hh_a τ 1 k) → K (nI 4) la (nI (k + 1)) (hh_sA τ 22 (nI r) (hh_a τ 1 k - 48))) ∧ (¬ (¬ hh_a τ 1 k < 50 ∧ ¬ 52 < hh_a τ 1 k) → Q (nI k) (hh_sA τ 22 (nI r) (hh_a τ 1 k - 48)))) : wq_X9_faultOf_11 Q K (nI 3) la (nI k) τ := by
  unfold wq_X9_faultOf_11
  show (τ.1 0 ≤ nI k → _) ∧ (¬ τ.1 0 ≤ nI k → _)
  rw [h0]
  refine pp_f (fun w => by have := (pp_le (by omega) (by omega)).mp w; omega) ⟨pp_in (by omega) (by omega), ?_⟩
  rw [pp_rA (by omega)]
  rintro x rfl v hv
  have hv : v = nI r := hv.trans h27
  subst hv
  have I : vp_in (nI r) 8 := pp_in (by omega) (by omega)
  refine pp_nf (by decide) (pp_nf (by decide) (pp_nf (by decide) (pp_nt rfl ?_)))
  by_cases w : (¬ hh_a τ 1 k < 50 ∧ ¬ 52 < hh_a τ 1 k)
  · refine s9_inT w.1 w.2 (pp_f (by decide) ⟨I, ?_⟩)
    rintro τ1 rfl
    exact mq_260 (by omega) (mq_439T (t := 4) (by omega) (q.1 w))
  · refine s9_inF w (pp_t rfl ⟨I, ?_⟩)
    rintro τ1 rfl
    exact mq_260 (by omega) (mq_439F (q.2 w))
theorem mq_s4 {K : Int32 → Int32 → Int32 → hh_S → Prop} {la : Int32} {k sn r : Nat} {Q : Int32 → hh_S → Prop} {τ : hh_S} (hk : k < sn) (hsn : sn ≤ 60) (h0 : τ.1 0 = nI sn) (h27 : τ.1 27 = nI r) (hr : r ≤ 7) (q : (¬ hh_a τ 1 k = 33 → ((¬ hh_a τ 1 k = 60 → Q (nI k) τ) ∧ (hh_a τ 1 k = 60 → ((nI r ≤ 0 → Q (nI k) τ) ∧ (¬ nI r ≤ 0 → K (nI 5) (-1) (nI (k + 1)) τ))))) ∧ (hh_a τ 1 k = 33 → K (nI 7) la (nI (k + 1)) (hh_sA τ 24 (nI r) 0))) : wq_X9_faultOf_11 Q K (nI 4) la (nI k) τ := by
  unfold wq_X9_faultOf_11
  show (τ.1 0 ≤ nI k → _) ∧ (¬ τ.1 0 ≤ nI k → _)
  rw [h0]
  refine pp_f (fun w => by have := (pp_le (by omega) (by omega)).mp w; omega) ⟨pp_in (by omega) (by omega), ?_⟩
  rw [pp_rA (by omega)]
  rintro x rfl v hv
  have hv : v = nI r := hv.trans h27
  subst hv
  have I : vp_in (nI r) 8 := pp_in (by omega) (by omega)
  refine pp_nf (by decide) (pp_nf (by decide) (pp_nf (by decide) (pp_nf (by decide) (pp_t rfl ?_))))
  unfold wq_X9_faultOf_216
  refine ⟨fun w => pp_nt rfl ⟨fun w2 => mq_260 (by omega) (mq_439F ((q.1 w).1 w2)), fun w2 => ⟨fun w3 => mq_260 (by omega) (mq_439F (((q.1 w).2 w2).1 w3)), fun w3 => mq_260 (by omega) (mq_439T (t := 5) (by omega) (((q.1 w).2 w2).2 w3))⟩⟩, fun w => ⟨I, ?_⟩⟩
  rintro τ1 rfl
  exact mq_260 (by omega) (mq_439T (t := 7) (by omega) (q.2 w))
theorem mq_276 {K : Int32 → Int32 → Int32 → hh_S → Prop} {la x : Int32} {s k r : Nat} {p : Nat → Bool} {Q : Int32 → hh_S → Prop} {τ : hh_S} (hs : s ≤ 6) (hr : r ≤ 7) (hp : ∀ j, j < r → decide (hh_a τ 21 j = x - 97) = p j) (q : (¬ ((¬ x < 97 ∧ ¬ 104 < x) ∧ ¬ x - 97 ≤ la ∧ fa_first p r < r) → Q (nI k) τ) ∧ ((¬ x < 97 ∧ ¬ 104 < x) ∧ ¬ x - 97 ≤ la ∧ fa_first p r < r → K (nI 6) (x - 97) (nI (k + 1)) (hh_sA τ 23 (nI r) (hh_a τ 23 r ||| ((1 : Int32) <<< (nI (fa_first p r) &&& 31)))))) : wq_X9_faultOf_276 K (nI s) la (nI k) x (nI r) (-6) Q τ := by
  unfold wq_X9_faultOf_276
  have no : ¬ ((¬ x < 97 ∧ ¬ 104 < x) ∧ ¬ x - 97 ≤ la ∧ fa_first p r < r) → wq_X9_faultOf_344 K (nI s) la (nI k) x (nI r) (-6) Q τ := fun w => mq_344 hs (mq_439F (q.1 w))
  by_cases w : (¬ x < 97 ∧ ¬ 104 < x)
  · refine s9_inT w.1 w.2 (pp_f (by decide) ⟨fun w2 => no (fun z => z.2.1 w2), fun w2 => s9_named (p := p) (by omega) hp ?_⟩)
    refine pp_c _ (pp_fi_neg (by omega)) (fun w3 => no (fun z => w3 z.2.2)) (fun w3 => ⟨pp_in (by omega) (by omega), s9_named (p := p) (by omega) hp ⟨pp_in (by omega) (by omega), ?_⟩⟩)
    have w3 := Classical.not_not.mp w3
    rw [pp_rA (by omega), show pp_fi p r = nI (fa_first p r) from if_pos w3]
    rintro τ1 rfl v rfl
    exact mq_344 hs (mq_439T (t := 6) (by omega) (q.2 ⟨w, w2, w3⟩))
  · exact s9_inF w (pp_t rfl (no (fun z => w z.1)))
theorem mq_s5 {K : Int32 → Int32 → Int32 → hh_S → Prop} {la : Int32} {k sn r : Nat} {Q : Int32 → hh_S → Prop} {τ : hh_S} (hk : k < sn) (hsn : sn ≤ 60) (h0 : τ.1 0 = nI sn) (h27 : τ.1 27 = nI r) (q : wq_X9_faultOf_276 K (nI 5) la (nI k) (hh_a τ 1 k) (nI r) (-6) Q τ) : wq_X9_faultOf_11 Q K (nI 5) la (nI k) τ := by
  unfold wq_X9_faultOf_11
  show (τ.1 0 ≤ nI k → _) ∧ (¬ τ.1 0 ≤ nI k → _)
  rw [h0]
  refine pp_f (fun w => by have := (pp_le (by omega) (by omega)).mp w; omega) ⟨pp_in (by omega) (by omega), ?_⟩
  rw [pp_rA (by omega)]
  rintro x rfl v hv
  have hv : v = nI r := hv.trans h27
  subst hv
  refine pp_nf (by decide) (pp_nf (by decide) (pp_nf (by decide) (pp_nf (by decide) (pp_f (by decide) (pp_nf (by decide) ?_)))))
  unfold wq_X9_faultOf_260
  exact pp_f (by decide) (pp_t rfl q)
theorem mq_s6 {K : Int32 → Int32 → Int32 → hh_S → Prop} {la : Int32} {k sn r : Nat} {Q : Int32 → hh_S → Prop} {τ : hh_S} (hk : k < sn) (hsn : sn ≤ 60) (h0 : τ.1 0 = nI sn) (h27 : τ.1 27 = nI r) (hr : r ≤ 7) (q : (¬ hh_a τ 1 k = 33 → wq_X9_faultOf_276 K (nI 6) la (nI k) (hh_a τ 1 k) (nI r) (-6) Q τ) ∧ (hh_a τ 1 k = 33 → K (nI 7) la (nI (k + 1)) (hh_sA τ 24 (nI r) 0))) : wq_X9_faultOf_11 Q K (nI 6) la (nI k) τ := by
  unfold wq_X9_faultOf_11
  show (τ.1 0 ≤ nI k → _) ∧ (¬ τ.1 0 ≤ nI k → _)
  rw [h0]
  refine pp_f (fun w => by have := (pp_le (by omega) (by omega)).mp w; omega) ⟨pp_in (by omega) (by omega), ?_⟩
  rw [pp_rA (by omega)]
  rintro x rfl v hv
  have hv : v = nI r := hv.trans h27
  subst hv
  refine pp_nf (by decide) (pp_nf (by decide) (pp_nf (by decide) (pp_nf (by decide) (pp_f (by decide) (pp_nt rfl ?_)))))
  unfold wq_X9_faultOf_216
  refine ⟨fun w => pp_nf (by decide) ?_, fun w => ⟨pp_in (by omega) (by omega), ?_⟩⟩
  · unfold wq_X9_faultOf_260
    exact pp_f (by decide) (pp_f (by decide) (pp_nt rfl (q.1 w)))
  · rintro τ1 rfl
    exact mq_260b (t := 7) (by omega) (by omega) (mq_439T (t := 7) (by omega) (q.2 w))
theorem mq_s7 {K : Int32 → Int32 → Int32 → hh_S → Prop} {la : Int32} {s k sn r : Nat} {Q : Int32 → hh_S → Prop} {τ : hh_S} (hk : k < sn) (hsn : sn ≤ 60) (h0 : τ.1 0 = nI sn) (h27 : τ.1 27 = nI r) (hr : r ≤ 7) (hs : 7 ≤ s) (hs2 : s ≤ 10) (qd : (¬ hh_a τ 1 k < 48 ∧ ¬ 57 < hh_a τ 1 k) → s < 10 → K (nI (s + 1)) la (nI (k + 1)) (hh_sA τ 24 (nI r) (10 * hh_a τ 24 r + hh_a τ 1 k - 48))) (qe : hh_a τ 1 k = 59 → 8 ≤ s → r < 7 → K (nI 0) la (nI (k + 1)) (hh_uI τ 27 (nI (r + 1)))) (qf : ¬ ((¬ hh_a τ 1 k < 48 ∧ ¬ 57 < hh_a τ 1 k) ∧ s < 10) → ¬ (hh_a τ 1 k = 59 ∧ 8 ≤ s ∧ r < 7) → Q (nI k) τ) : wq_X9_faultOf_11 Q K (nI s) la (nI k) τ := by
  have ne : ∀ z, z < 7 → ¬ nI s = nI z := fun z hz w => by have := (pp_eq (by omega) (by omega)).mp w; omega
  unfold wq_X9_faultOf_11
  show (τ.1 0 ≤ nI k → _) ∧ (¬ τ.1 0 ≤ nI k → _)
  rw [h0]
  refine pp_f (fun w => by have := (pp_le (by omega) (by omega)).mp w; omega) ⟨pp_in (by omega) (by omega), ?_⟩
  rw [pp_rA (by omega)]
  rintro x rfl v hv
  have hv : v = nI r := hv.trans h27
  subst hv
  refine pp_nf (ne 0 (by omega)) (pp_nf (ne 1 (by omega)) (pp_nf (ne 2 (by omega)) (pp_nf (ne 3 (by omega)) (pp_f (ne 4 (by omega)) (pp_nf (ne 6 (by omega)) ?_)))))
  unfold wq_X9_faultOf_260
  refine pp_f (by decide) (pp_f (ne 5 (by omega)) (pp_nf (ne 6 (by omega)) ?_))
  unfold wq_X9_faultOf_344
  refine s9_inT (fun w => by have := (pp_lt (b := 7) (by omega) (by omega)).mp w; omega) (fun w => by have := (pp_lt (a := 10) (by omega) (by omega)).mp w; omega) (pp_f (by decide) ?_)
  by_cases w : (¬ hh_a τ 1 k < 48 ∧ ¬ 57 < hh_a τ 1 k)
  · have n59 : ¬ hh_a τ 1 k = 59 := fun z => by rw [z] at w; exact w.2 (by decide)
    have tail : ∀ (x6 : Int32) (τ' : hh_S), wq_X9_faultOf_439 K la (nI k) x6 Q τ' → wq_X9_faultOf_401 K (nI s) la (nI k) (hh_a τ 1 k) (nI r) x6 Q τ' := by
      intro x6 τ' h
      unfold wq_X9_faultOf_401
      refine s9_in ?_
      refine pp_bz (fun _ => h) (fun _ => pp_nf n59 h)
    refine s9_inT w.1 w.2 (pp_f (by decide) ?_)
    rw [show (10 : Int32) = nI 10 from rfl]
    refine pp_c _ (pp_le (by omega) (by omega)) (fun w2 => tail _ _ (mq_439F (qf (fun z => by omega) (fun z => n59 z.1)))) (fun w2 => ⟨pp_in (by omega) (by omega), pp_in (by omega) (by omega), ?_⟩)
    rw [pp_rA (by omega), show nI s + 1 = nI (s + 1) from nI_1 s]
    rintro τ1 rfl v rfl
    exact tail _ _ (mq_439T (t := s + 1) (by omega) (qd w (by omega)))
  · refine s9_inF w (pp_t rfl ?_)
    unfold wq_X9_faultOf_401
    have no : ¬ (hh_a τ 1 k = 59 ∧ 8 ≤ s ∧ r < 7) → wq_X9_faultOf_439 K la (nI k) (-6) Q τ := fun z => mq_439F (qf (fun y => w y.1) z)
    by_cases w2 : 8 ≤ s
    · refine s9_inT (fun w => by have := (pp_lt (b := 8) (by omega) (by omega)).mp w; omega) (fun w => by have := (pp_lt (a := 10) (by omega) (by omega)).mp w; omega) (pp_f (by decide) ⟨fun w3 => no (fun z => w3 z.1), fun w3 => ?_⟩)
      rw [show (7 : Int32) = nI 7 from rfl]
      refine pp_c _ (pp_le (by omega) (by omega)) (fun w4 => no (fun z => by omega)) (fun w4 => ?_)
      show ∀ σ7 : hh_S, σ7 = hh_uI τ 27 (τ.1 27 + 1) → _
      rw [h27, show nI r + 1 = nI (r + 1) from nI_1 r]
      rintro τ1 rfl
      exact mq_439T (t := 0) (by omega) (qe w3 w2 (by omega))
    · exact s9_inF (fun z => z.1 ((pp_lt (b := 8) (by omega) (by omega)).mpr (by omega))) (pp_t rfl (no (fun z => w2 z.2.1)))
