/-! ===== pure rows: reading, writing, branches ===== -/
abbrev hh_a (σ : hh_S) (k i : Nat) : Int32 := σ.2.2.1 k i
abbrev hh_b (σ : hh_S) (k i : Nat) : Int64 := σ.2.2.2 k i
def pp_i (b : Bool) : Int32 := if b then 1 else 0
theorem pp_nar (b : Bool) : narrow .boolean (.int (pp_i b)) = .int (pp_i b) := by cases b <;> rfl
theorem pp_vnar (b : Bool) : vp_nar .boolean (pp_i b) = pp_i b := by cases b <;> rfl
theorem pp_i0 : pp_i false = 0 := rfl
theorem pp_i1 : pp_i true = 1 := rfl
theorem pp_bz {b : Bool} {A B : Prop} (f : b = false → A) (g : b = true → B) : (pp_i b = 0 → A) ∧ (¬ pp_i b = 0 → B) := by
  cases b
  · exact ⟨fun _ => f rfl, fun h => absurd rfl h⟩
  · exact ⟨fun h => absurd h (by decide), fun _ => g rfl⟩
theorem pp_bn {b : Bool} {A B : Prop} (g : b = true → B) (f : b = false → A) : (¬ pp_i b = 0 → B) ∧ (pp_i b = 0 → A) := ⟨(pp_bz f g).2, (pp_bz f g).1⟩
theorem pp_sw {A B : Prop} (h : A ∧ B) : B ∧ A := ⟨h.2, h.1⟩
theorem pp_t {c A B : Prop} (h : c) (a : A) : (c → A) ∧ (¬ c → B) := ⟨fun _ => a, fun n => absurd h n⟩
theorem pp_f {c A B : Prop} (h : ¬ c) (b : B) : (c → A) ∧ (¬ c → B) := ⟨fun n => absurd n h, fun _ => b⟩
theorem pp_nt {c A B : Prop} (h : c) (a : A) : (¬ c → B) ∧ (c → A) := ⟨fun n => absurd h n, fun _ => a⟩
theorem pp_nf {c A B : Prop} (h : ¬ c) (b : B) : (¬ c → B) ∧ (c → A) := ⟨fun _ => b, fun n => absurd n h⟩
theorem pp_c {c A B : Prop} (d : Prop) (e : c ↔ d) (f : d → A) (g : ¬ d → B) : (c → A) ∧ (¬ c → B) := ⟨fun h => f (e.mp h), fun h => g (fun q => h (e.mpr q))⟩
theorem pp_nc {c A B : Prop} (d : Prop) (e : c ↔ d) (g : ¬ d → B) (f : d → A) : (¬ c → B) ∧ (c → A) := ⟨fun h => g (fun q => h (e.mpr q)), fun h => f (e.mp h)⟩
theorem pp_rA {σ : hh_S} {k n : Nat} (h : n < 2147483648) : hh_rA σ k (nI n) = hh_a σ k n := by
  unfold hh_rA
  rw [nI_clamp h]
theorem pp_rB {σ : hh_S} {k n : Nat} (h : n < 2147483648) : hh_rB σ k (nI n) = hh_b σ k n := by
  unfold hh_rB
  rw [nI_clamp h]
theorem pp_cl {n : Nat} (h : n < 2147483648) : (nI n).toNatClampNeg = n := nI_clamp h
theorem pp_le {a b : Nat} (ha : a < 2147483648) (hb : b < 2147483648) : nI a ≤ nI b ↔ a ≤ b := nI_leI ha hb
theorem pp_lt {a b : Nat} (ha : a < 2147483648) (hb : b < 2147483648) : nI a < nI b ↔ a < b := nI_ltI ha hb
theorem pp_eq {a b : Nat} (ha : a < 2147483648) (hb : b < 2147483648) : nI a = nI b ↔ a = b := nI_eq ha hb
theorem pp_in {n N : Nat} (h : n < N) (hN : N < 2147483648) : vp_in (nI n) N := vp_in_nI h hN
theorem pp_n6 {n : Nat} (h : n < 2147483648) : ¬ nI n = (-6 : Int32) := fun q => nI_pos h (by rw [q]; decide)
theorem pp_p0 {n : Nat} (h : n < 2147483648) : ¬ nI n < 0 := nI_pos h
theorem pp_lit (n : Nat) : (OfNat.ofNat n : Int32) = nI n := rfl
theorem pp_idx {a b k : Nat} : nI k * nI a + nI b = nI (k * a + b) := by rw [pk_mul, nI_add]
/-- writes -/
theorem pp_sA_a {σ : hh_S} {k i j q : Nat} {x : Int32} (h : i < 2147483648) : hh_a (hh_sA σ k (nI i) x) j q = if j = k ∧ q = i then x else hh_a σ j q := by
  show (if j = k then upd (σ.2.2.1 k) (nI i).toNatClampNeg x else σ.2.2.1 j) q = _
  rw [nI_clamp h]
  by_cases h1 : j = k
  · subst h1
    rw [if_pos rfl]
    unfold upd
    by_cases h2 : q = i
    · rw [if_pos h2, if_pos ⟨rfl, h2⟩]
    · rw [if_neg h2, if_neg (fun z => h2 z.2)]
  · rw [if_neg h1, if_neg (fun z => h1 z.1)]
theorem pp_sB_b {σ : hh_S} {k i j q : Nat} {x : Int64} (h : i < 2147483648) : hh_b (hh_sB σ k (nI i) x) j q = if j = k ∧ q = i then x else hh_b σ j q := by
  show (if j = k then vp_updL (σ.2.2.2 k) (nI i).toNatClampNeg x else σ.2.2.2 j) q = _
  rw [nI_clamp h]
  by_cases h1 : j = k
  · subst h1
    rw [if_pos rfl]
    unfold vp_updL
    by_cases h2 : q = i
    · rw [if_pos h2, if_pos ⟨rfl, h2⟩]
    · rw [if_neg h2, if_neg (fun z => h2 z.2)]
  · rw [if_neg h1, if_neg (fun z => h1 z.1)]
theorem pp_sA_n {σ : hh_S} {k j : Nat} {i x : Int32} (h : j ≠ k) (q : Nat) : hh_a (hh_sA σ k i x) j q = hh_a σ j q := by
  show (if j = k then _ else σ.2.2.1 j) q = _
  rw [if_neg h]
theorem pp_sA_f {σ : hh_S} {k j : Nat} {i x : Int32} (h : j ≠ k) : (hh_sA σ k i x).2.2.1 j = σ.2.2.1 j := if_neg h
theorem pp_sA_I {σ : hh_S} {k : Nat} {i x : Int32} : (hh_sA σ k i x).1 = σ.1 := rfl
theorem pp_sA_B {σ : hh_S} {k : Nat} {i x : Int32} : (hh_sA σ k i x).2.2.2 = σ.2.2.2 := rfl
theorem pp_uI_I {σ : hh_S} {k j : Nat} {v : Int32} : (hh_uI σ k v).1 j = if j = k then v else σ.1 j := rfl
theorem pp_uI_a {σ : hh_S} {k : Nat} {v : Int32} : (hh_uI σ k v).2 = σ.2 := rfl
/-- an int in a range, as a Bool -/
def pp_ix (x : Int32) (k : Nat) : Bool := decide (0 ≤ x.toInt ∧ x.toInt < k)
theorem pp_ix_t {x : Int32} {k : Nat} (h : pp_ix x k = true) (hk : k < 2147483648) : ∃ j, j < k ∧ x = nI j := vp_in_of (vp_in_iff.mpr (of_decide_eq_true h)) hk
theorem pp_ix_nI {j k : Nat} (h : j < k) (hk : k < 2147483648) : pp_ix (nI j) k = true := decide_eq_true (vp_in_iff.mp (vp_in_nI h hk))
theorem pp_ix_f {x : Int32} {k : Nat} (h : pp_ix x k = false) (hk : k < 2147483648) : x < 0 ∨ nI k ≤ x := by
  rcases pk_ix x (n := k) hk with h1 | h1 | ⟨j, h1, h2⟩
  · exact Or.inl h1
  · exact Or.inr h1
  · subst h2
    rw [pp_ix_nI h1 hk] at h
    cases h
theorem pp_ix_n {x : Int32} {k : Nat} (h : pp_ix x k = false) {j : Nat} (hj : j < k) (hk : k < 2147483648) : x ≠ nI j := fun q => by
  subst q
  rw [pp_ix_nI hj hk] at h
  cases h
/-- first of many by a strict comparison -/
def pp_bst (f : Nat → Int32) : Nat → Nat
  | 0 => 0
  | n + 1 => if f (pp_bst f n) < f n then n else pp_bst f n
theorem pp_bst_le (f : Nat → Int32) : ∀ n, pp_bst f n ≤ n
  | 0 => Nat.le_refl 0
  | n + 1 => by
    unfold pp_bst
    have := pp_bst_le f n
    split <;> omega
theorem pp_bst_lt (f : Nat → Int32) {n : Nat} (h : 0 < n) : pp_bst f n < n := by
  induction n with
  | zero => omega
  | succ n ih =>
    unfold pp_bst
    by_cases h0 : 0 < n
    · have := ih h0
      split <;> omega
    · have e : n = 0 := by omega
      subst e
      have : pp_bst f 0 = 0 := rfl
      split <;> omega
theorem pp_bst_1 (f : Nat → Int32) : pp_bst f 1 = 0 := by
  unfold pp_bst
  split <;> rfl
theorem pp_bst_cong {f g : Nat → Int32} : ∀ {n : Nat}, (∀ k, k < n → f k = g k) → pp_bst f n = pp_bst g n
  | 0, _ => rfl
  | n + 1, h => by
    have ih := pp_bst_cong (f := f) (g := g) (n := n) (fun k hk => h k (by omega))
    unfold pp_bst
    rw [← ih]
    by_cases h0 : 0 < n
    · have := pp_bst_lt f h0
      rw [h _ (by omega), h n (by omega)]
    · have e : n = 0 := by omega
      subst e
      split <;> split <;> rfl
def pp_all (p : Nat → Bool) : Nat → Bool
  | 0 => true
  | n + 1 => pp_all p n && p n
theorem pp_all_cong {p q : Nat → Bool} : ∀ {n : Nat}, (∀ k, k < n → p k = q k) → pp_all p n = pp_all q n
  | 0, _ => rfl
  | n + 1, h => by
    unfold pp_all
    rw [pp_all_cong (fun k hk => h k (by omega)), h n (by omega)]
theorem pp_all_f {p : Nat → Bool} {k : Nat} (hp : p k = false) : ∀ {n : Nat}, k < n → pp_all p n = false
  | 0, h => absurd h (Nat.not_lt_zero k)
  | n + 1, h => by
    unfold pp_all
    by_cases e : k = n
    · subst e
      rw [hp, Bool.and_false]
    · rw [pp_all_f hp (by omega), Bool.false_and]
theorem pp_first_cong {p q : Nat → Bool} : ∀ {n : Nat}, (∀ k, k < n → p k = q k) → fa_first p n = fa_first q n
  | 0, _ => rfl
  | n + 1, h => by
    have ih := pp_first_cong (p := p) (q := q) (n := n) (fun k hk => h k (by omega))
    unfold fa_first
    rw [ih, h n (by omega)]
theorem pp_first_is {p : Nat → Bool} {n k : Nat} (hk : k < n) (hp : p k = true) (hn : ∀ j, j < k → p j = false) : fa_first p n = k := by
  have h1 := fa_first_no p n
  have h2 := fa_first_yes p n
  have h3 := fa_first_le p n
  by_cases e : fa_first p n < n
  · have h4 := h2 e
    rcases Nat.lt_trichotomy (fa_first p n) k with h | h | h
    · rw [hn _ h] at h4
      cases h4
    · exact h
    · have := h1 k h
      rw [hp] at this
      cases this
  · have := h1 k (by omega)
    rw [hp] at this
    cases this
theorem pp_first_none {p : Nat → Bool} {n : Nat} (hn : ∀ j, j < n → p j = false) : fa_first p n = n := by
  have h2 := fa_first_yes p n
  have h3 := fa_first_le p n
  by_cases e : fa_first p n < n
  · have h4 := h2 e
    rw [hn _ e] at h4
    cases h4
  · omega
/-- the place of the first, or NONE -/
def pp_fi (p : Nat → Bool) (n : Nat) : Int32 := if fa_first p n < n then nI (fa_first p n) else -6
