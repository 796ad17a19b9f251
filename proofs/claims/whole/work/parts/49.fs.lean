/-! ===== fault, task ===== -/
def fq_C (c σ : hh_S) : Prop := (∀ k, k ≠ 192 → k ≠ 67 → k ≠ 68 → k ≠ 69 → k ≠ 70 → σ.1 k = c.1 k) ∧ (∀ k, k ≠ 15 → k ≠ 16 → k ≠ 17 → k ≠ 18 → σ.2.2.1 k = c.2.2.1 k)
def fq_M (m τ : hh_S) : Prop := (∀ k, k ≠ 27 → τ.1 k = m.1 k) ∧ (∀ k, k ≠ 21 → k ≠ 22 → k ≠ 23 → k ≠ 24 → τ.2.2.1 k = m.2.2.1 k)
def fq_D (r : Nat) (σ τ : hh_S) : Prop := ∀ k, k < r → hh_a σ 15 k = hh_a τ 21 k ∧ hh_a σ 16 k = hh_a τ 22 k ∧ hh_a σ 17 k = hh_a τ 23 k ∧ hh_a σ 18 k = hh_a τ 24 k ∧ (∃ L, 2 ≤ L ∧ L ≤ 4 ∧ hh_a σ 16 k = nI L) ∧ ∃ j, j < 8 ∧ hh_a σ 15 k = nI j
theorem fq_C_r (c : hh_S) : fq_C c c := ⟨fun _ _ _ _ _ _ => rfl, fun _ _ _ _ _ => rfl⟩
theorem fq_M_r (m : hh_S) : fq_M m m := ⟨fun _ _ => rfl, fun _ _ _ _ _ => rfl⟩
theorem fq_C_I {c σ : hh_S} {k : Nat} {v : Int32} (hk : k = 192 ∨ k = 67 ∨ k = 68 ∨ k = 69 ∨ k = 70) (F : fq_C c σ) : fq_C c (hh_uI σ k v) := ⟨fun j k1 k2 k3 k4 k5 => (show (if j = k then v else σ.1 j) = c.1 j by rw [if_neg (by omega)]; exact F.1 j k1 k2 k3 k4 k5), F.2⟩
theorem fq_C_A {c σ : hh_S} {k : Nat} {i v : Int32} (hk : 15 ≤ k ∧ k ≤ 18) (F : fq_C c σ) : fq_C c (hh_sA σ k i v) := ⟨F.1, fun j k1 k2 k3 k4 => by rw [pp_sA_f (by omega)]; exact F.2 j k1 k2 k3 k4⟩
theorem fq_M_I {c σ : hh_S} {v : Int32} (F : fq_M c σ) : fq_M c (hh_uI σ 27 v) := ⟨fun j k1 => (show (if j = 27 then v else σ.1 j) = c.1 j by rw [if_neg (by omega)]; exact F.1 j k1), F.2⟩
theorem fq_M_A {c σ : hh_S} {k : Nat} {i v : Int32} (hk : 21 ≤ k ∧ k ≤ 24) (F : fq_M c σ) : fq_M c (hh_sA σ k i v) := ⟨F.1, fun j k1 k2 k3 k4 => by rw [pp_sA_f (by omega)]; exact F.2 j k1 k2 k3 k4⟩
theorem fq_D_e {r : Nat} {σ σ' τ τ' : hh_S} (h1 : ∀ k i, i < r → hh_a σ' k i = hh_a σ k i) (h2 : ∀ k i, i < r → hh_a τ' k i = hh_a τ k i) (D : fq_D r σ τ) : fq_D r σ' τ' := by
  intro k hk
  rw [h1 _ _ hk, h1 _ _ hk, h1 _ _ hk, h1 _ _ hk, h2 _ _ hk, h2 _ _ hk, h2 _ _ hk, h2 _ _ hk]
  exact D k hk
theorem fq_lt {σ : hh_S} {k a q r : Nat} {v : Int32} (hr : r ≤ 7) (hq : q < r) : hh_a (hh_sA σ k (nI r) v) a q = hh_a σ a q := by rw [pp_sA_a (by omega), if_neg (fun y => by omega)]
theorem fq_at {σ : hh_S} {k r : Nat} {v : Int32} (hr : r ≤ 7) : hh_a (hh_sA σ k (nI r) v) k r = v := by rw [pp_sA_a (by omega), if_pos ⟨rfl, rfl⟩]
/-- the STEP that is being read -/
def fq_O (s r : Nat) (la : Int32) (σ τ : hh_S) : Prop := σ.1 68 = nI r ∧ hh_a σ 15 r = hh_a τ 21 r ∧ hh_a σ 17 r = hh_a τ 23 r ∧ (∃ j, j < 8 ∧ hh_a σ 15 r = nI j) ∧ (s ≤ 3 → hh_a σ 16 r = 2) ∧ (4 ≤ s → hh_a σ 16 r = hh_a τ 22 r ∧ ∃ L, 2 ≤ L ∧ L ≤ 4 ∧ hh_a σ 16 r = nI L) ∧ (s ≤ 7 → hh_a σ 18 r = 0 ∧ σ.1 70 = 0) ∧ (7 ≤ s → hh_a σ 18 r = hh_a τ 24 r) ∧ (8 ≤ s → σ.1 70 = nI (s - 7)) ∧ (s ≤ 4 → σ.1 69 = -1) ∧ (s = 5 ∨ s = 6 → σ.1 69 = la)
def fq_R (s r : Nat) (la : Int32) (σ τ : hh_S) : Prop := r ≤ 7 ∧ s ≤ 10 ∧ τ.1 27 = nI r ∧ σ.1 67 = nI (if s ≤ 7 then s else 8) ∧ σ.1 192 = nI (if s = 0 then r else r + 1) ∧ fq_D r σ τ ∧ (1 ≤ s → fq_O s r la σ τ)
def fq_G (m : hh_S) (k s : Nat) (la : Int32) (τ : hh_S) : Prop := ∀ Q' : Int32 → hh_S → Prop, (∃ n, hh_lp3 (wq_X9_faultOf_11 Q') n (nI s) la (nI k) τ) → wp_X9_faultOf m Q'
theorem fq_G_s {m τ τ' : hh_S} {k s s' : Nat} {la la' : Int32} (G : fq_G m k s la τ) (h : ∀ (Q' : Int32 → hh_S → Prop) (K : Int32 → Int32 → Int32 → hh_S → Prop), K (nI s') la' (nI (k + 1)) τ' → wq_X9_faultOf_11 Q' K (nI s) la (nI k) τ) : fq_G m (k + 1) s' la' τ' := fun Q' w => by
  obtain ⟨n, w⟩ := w
  exact G Q' ⟨n + 1, h Q' _ w⟩
theorem fq_G_q {m τ : hh_S} {k s : Nat} {la : Int32} {Q' : Int32 → hh_S → Prop} (G : fq_G m k s la τ) (h : ∀ K : Int32 → Int32 → Int32 → hh_S → Prop, wq_X9_faultOf_11 Q' K (nI s) la (nI k) τ) : wp_X9_faultOf m Q' := G Q' ⟨1, h _⟩
theorem fq_ge4 {s : Nat} (z0 : ¬ s = 0) (z1 : ¬ s = 1) (z2 : ¬ s = 2) (z3 : ¬ s = 3) : 4 ≤ s := by omega
theorem fq_ge7 {s : Nat} (h : 4 ≤ s) (z4 : ¬ s = 4) (z5 : ¬ s = 5) (z6 : ¬ s = 6) : 7 ≤ s := by omega
theorem s7_read {sn : Nat} {c m : hh_S} {Qc : Int32 → hh_S → Prop} (R1 : rr_1 sn c m) (q : ∀ (x : Int32) (c' : hh_S), fq_C c c' → (∀ Q' : Int32 → hh_S → Prop, (∀ m', fq_M m m' → (x = -6 → ∃ ns, 1 ≤ ns ∧ ns ≤ 8 ∧ c'.1 192 = nI ns ∧ m'.1 27 = nI ns ∧ fq_D ns c' m') → (¬ x = -6 → ¬ x < 0) → Q' x m') → wp_X9_faultOf m Q') → Qc x c') : wp_X7_read c Qc := by
  obtain ⟨hsn, c64, m0, sg⟩ := R1
  unfold wp_X7_read
  rintro c1 rfl c2 e2
  have G0 : fq_G m 0 0 (-1) (hh_uI m 27 0) := by
    intro Q' w
    unfold wp_X9_faultOf
    rintro τ rfl
    exact w
  have F0 : fq_C c c2 := by rw [e2]; exact fq_C_I (by omega) (fq_C_I (by omega) (fq_C_r c))
  have R0 : fq_R 0 0 (-1) c2 (hh_uI m 27 0) := by
    rw [e2]
    exact ⟨by omega, by omega, rfl, rfl, rfl, fun k hk => absurd hk (Nat.not_lt_zero k), fun w => absurd w (by omega)⟩
  refine hh_lp1_i (fun x σ => ∃ k s r la τ, k ≤ sn ∧ x = nI k ∧ fq_C c σ ∧ fq_M m τ ∧ fq_R s r la σ τ ∧ fq_G m k s la τ) (fun x σ => sn - x.toNatClampNeg) ?_ ⟨0, 0, 0, -1, hh_uI m 27 0, by omega, rfl, F0, fq_M_I (fq_M_r m), R0, G0⟩
  clear R0 F0 G0 e2 c2
  rintro K x σ ⟨k, s, r, la, τ, hk, rfl, FC, FM, ⟨hr, hs, t27, s67, s192, D, O⟩, G⟩ hK
  unfold wq_X7_read_15
  have s64 : σ.1 64 = nI sn := (FC.1 64 (by omega) (by omega) (by omega) (by omega) (by omega)).trans c64
  have t0 : τ.1 0 = nI sn := (FM.1 0 (by omega)).trans m0
  show (σ.1 64 ≤ nI k → ((¬ σ.1 67 = 8 → Qc (σ.1 64) σ) ∧ (σ.1 67 = 8 → Qc (-6) σ))) ∧ (¬ σ.1 64 ≤ nI k → _)
  rw [s64]
  refine pp_c _ (pp_le (by omega) (by omega)) (fun e => ?_) (fun e => ⟨pp_in (by omega) (by omega), ?_⟩)
  · have e : k = sn := by omega
    subst e
    have fin : ∀ (Q' : Int32 → hh_S → Prop) (K : Int32 → Int32 → Int32 → hh_S → Prop), (8 ≤ s → Q' (-6) (hh_uI τ 27 (nI (r + 1)))) → (s ≤ 7 → Q' (nI k) (hh_uI τ 27 (nI (r + 1)))) → wq_X9_faultOf_11 Q' K (nI s) la (nI k) τ := by
      intro Q' K q1 q2
      unfold wq_X9_faultOf_11
      show (τ.1 0 ≤ nI k → (∀ σ42 : hh_S, σ42 = hh_uI τ 27 (τ.1 27 + 1) → _)) ∧ (¬ τ.1 0 ≤ nI k → _)
      rw [t0, t27, show nI r + 1 = nI (r + 1) from nI_1 r]
      refine pp_t ((pp_le (by omega) (by omega)).mpr (Nat.le_refl _)) ?_
      rintro τ1 rfl
      by_cases w : 8 ≤ s
      · exact s9_inT (fun w => by have := (pp_lt (b := 8) (by omega) (by omega)).mp w; omega) (fun w => by have := (pp_lt (a := 10) (by omega) (by omega)).mp w; omega) (pp_f (by decide) (q1 w))
      · refine s9_inF (fun z => z.1 ((pp_lt (b := 8) (by omega) (by omega)).mpr (by omega))) (pp_t rfl ?_)
        show Q' (τ.1 0) _
        rw [t0]
        exact q2 (by omega)
    rw [s67]
    refine pp_nc (8 ≤ s) ((pp_eq (b := 8) (by split <;> omega) (by omega)).trans ⟨fun w => by split at w <;> omega, fun w => by rw [if_neg (by omega)]⟩) (fun w => ?_) (fun w => ?_)
    · refine q (nI k) σ FC (fun Q' q' => fq_G_q G (fun K => fin Q' K (fun w2 => absurd w2 w) (fun _ => q' _ (fq_M_I FM) (fun z => absurd z (pp_n6 (by omega))) (fun _ => pp_p0 (by omega)))))
    · refine q (-6) σ FC (fun Q' q' => fq_G_q G (fun K => fin Q' K (fun _ => q' _ (fq_M_I FM) (fun _ => ⟨r + 1, by omega, by omega, ?_, rfl, ?_⟩) (fun z => absurd rfl z)) (fun w2 => by omega)))
      · rw [s192, if_neg (by omega)]
      · obtain ⟨o1, o2, o3, o4, o5, o6, o7, o8, o9, o10, o11⟩ := O (by omega)
        intro j hj
        by_cases z : j = r
        · subst z
          exact ⟨o2, (o6 (by omega)).1, o3, o8 (by omega), (o6 (by omega)).2, o4⟩
        · exact D j (by omega)
  · have hk2 : k < sn := by omega
    have mu : sn - (nI (k + 1)).toNatClampNeg < sn - (nI k).toNatClampNeg := by rw [pp_cl (by omega), pp_cl (by omega)]; omega
    have sx : hh_a σ 19 k = hh_a τ 1 k := by
      have a : hh_a σ 19 k = hh_a c 19 k := congrFun (FC.2 19 (by omega) (by omega) (by omega) (by omega)) k
      have b : hh_a τ 1 k = hh_a m 1 k := congrFun (FM.2 1 (by omega) (by omega) (by omega) (by omega)) k
      rw [a, b]
      exact sg k hk2
    rw [pp_rA (by omega), sx, show nI k + 1 = nI (k + 1) from nI_1 k]
    have stop : (∀ (Q' : Int32 → hh_S → Prop) (K : Int32 → Int32 → Int32 → hh_S → Prop), (∀ τ', fq_M m τ' → Q' (nI k) τ') → wq_X9_faultOf_11 Q' K (nI s) la (nI k) τ) → ((¬ (0 : Int32) = 0 → K (nI (k + 1)) σ) ∧ ((0 : Int32) = 0 → Qc (nI k) σ)) := fun h => pp_nt rfl (q (nI k) σ FC (fun Q' q' => fq_G_q G (fun K => h Q' K (fun τ' F' => q' τ' F' (fun z => absurd z (pp_n6 (by omega))) (fun _ => pp_p0 (by omega))))))
    have next : ∀ (s' r' : Nat) (la' : Int32) (σ' τ' : hh_S), fq_C c σ' → fq_M m τ' → fq_R s' r' la' σ' τ' → (∀ (Q' : Int32 → hh_S → Prop) (K : Int32 → Int32 → Int32 → hh_S → Prop), K (nI s') la' (nI (k + 1)) τ' → wq_X9_faultOf_11 Q' K (nI s) la (nI k) τ) → ((¬ (1 : Int32) = 0 → K (nI (k + 1)) σ') ∧ ((1 : Int32) = 0 → Qc (nI k) σ')) := fun s' r' la' σ' τ' F' M' R' h => pp_nf (by decide) (hK _ _ ⟨k + 1, s', r', la', τ', by omega, rfl, F', M', R', fq_G_s G h⟩ mu)
    generalize hX : hh_a τ 1 k = X at *
    have pe : ∀ y : Int32, ∀ j, j < r → decide (hh_a τ 21 j = y) = decide (hh_a σ 15 j = y) := fun y j hj => by rw [(D j hj).1]
    have dl : ∀ (a : Nat) (v : Int32) (b : Nat) (w : Int32), fq_D r (hh_sA σ a (nI r) v) (hh_sA τ b (nI r) w) := fun a v b w => fq_D_e (fun _ _ hq => fq_lt hr hq) (fun _ _ hq => fq_lt hr hq) D
    have dm : ∀ (b : Nat) (w : Int32), fq_D r σ (hh_sA τ b (nI r) w) := fun b w => fq_D_e (fun _ _ _ => rfl) (fun _ _ hq => fq_lt hr hq) D
    by_cases z0 : s = 0
    · subst z0
      rw [if_pos (by omega)] at s67
      rw [if_pos rfl] at s192
      refine s7_t0 s67 (s7_name (p := fun j => decide (hh_a σ 15 j = X - 97)) hr s192 (fun _ _ => rfl) (fun w => ⟨rfl, stop (fun Q' K q' => ?_)⟩) ?_)
      · refine mq_s0F (p := fun j => decide (hh_a σ 15 j = X - 97)) hk2 hsn t0 t27 hr (by rw [hX]; exact pe _) ?_ (q' τ FM)
        rw [hX]
        rcases w with w | w
        · refine Or.inl (fun z => ?_)
          obtain ⟨j, hj, -, e2⟩ := (pf_off (a := 97) (b := 97) (lo := 0) (n := 7) (by omega) (by omega) (by omega) (by omega) (by omega)).mp z
          rw [show X - 97 = nI (0 + j) from e2, pp_ix_nI (by omega) (by omega)] at w
          exact absurd w (by decide)
        · exact Or.inr w
      · intro j hj ej nf c' a1 a2 a3 a4 a5 a6 a7 a8 a9 a10 a11 a12
        have xj : X = nI (97 + j) := pf_sub (a := 97) (b := 97) (lo := 0) (by omega) (by rw [show 0 + j = j by omega]; exact ej)
        refine ⟨rfl, next 1 r la c' (hh_sA (hh_sA τ 21 (nI r) (nI j)) 23 (nI r) 0) ⟨fun k k1 k2 k3 k4 k5 => (a1 k k1 k2 k3 k4 k5).trans (FC.1 k k1 k2 k3 k4 k5), fun k k1 k2 k3 k4 => (a7 k k1 k2 k3 k4).trans (FC.2 k k1 k2 k3 k4)⟩ (fq_M_A (by omega) (fq_M_A (by omega) FM)) ⟨hr, by omega, t27, a6, by rw [a3, if_neg (by omega)], ?_, fun _ => ⟨a2, ?_, ?_, ⟨j, hj, a9⟩, fun _ => a10, fun w => absurd w (by omega), fun _ => ⟨a12, a5⟩, fun w => absurd w (by omega), fun w => absurd w (by omega), fun _ => a4, fun w => absurd w (by omega)⟩⟩ (fun Q' K q' => ?_)⟩
        · exact fq_D_e (fun k i hi => a8 k i hi) (fun k i hi => (fq_lt hr hi).trans (fq_lt hr hi)) D
        · rw [a9, pp_sA_n (by omega), fq_at hr]
        · rw [a11, fq_at hr]
        · refine mq_s0T (p := fun j => decide (hh_a σ 15 j = X - 97)) hk2 hsn t0 t27 hr (by rw [hX]; exact pe _) ?_ nf (by rw [hX]; exact ej) q'
          rw [hX]
          exact (pf_off (a := 97) (b := 97) (lo := 0) (n := 7) (by omega) (by omega) (by omega) (by omega) (by omega)).mpr ⟨j, by omega, xj, by rw [show 0 + j = j by omega]; exact ej⟩
    have O' := id O
    obtain ⟨o1, o2, o3, o4, o5, o6, o7, o8, o9, o10, o11⟩ := O (by omega)
    rw [if_neg z0] at s192
    by_cases z1 : s = 1
    · subst z1
      rw [if_pos (by omega)] at s67
      refine s7_t1 s67 ⟨fun w => stop (fun Q' K q' => mq_s1 hk2 hsn t0 (by rw [hX]; exact pp_nf w (q' τ FM))), fun w => next 2 r la (hh_uI σ 67 2) τ (fq_C_I (by omega) FC) FM ⟨hr, by omega, t27, rfl, by rw [if_neg (by omega)]; exact s192, D, fun _ => ⟨o1, o2, o3, o4, fun _ => o5 (by omega), fun w => absurd w (by omega), fun _ => o7 (by omega), fun w => absurd w (by omega), fun w => absurd w (by omega), fun _ => o10 (by omega), fun w => absurd w (by omega)⟩⟩ (fun Q' K q' => mq_s1 hk2 hsn t0 (by rw [hX]; exact pp_nt w q'))⟩
    by_cases z2 : s = 2
    · subst z2
      rw [if_pos (by omega)] at s67
      have to4 : fq_R 4 r la (hh_uI σ 67 4) (hh_sA τ 22 (nI r) 2) := ⟨hr, by omega, t27, rfl, by rw [if_neg (by omega)]; exact s192, dm _ _, fun _ => ⟨o1, by rw [pp_sA_n (by omega)]; exact o2, by rw [pp_sA_n (by omega)]; exact o3, o4, fun w => absurd w (by omega), fun _ => ⟨by rw [fq_at hr]; exact o5 (by omega), 2, by omega, by omega, o5 (by omega)⟩, fun _ => o7 (by omega), fun w => absurd w (by omega), fun w => absurd w (by omega), fun _ => o10 (by omega), fun w => absurd w (by omega)⟩⟩
      have to3 : fq_R 3 r la (hh_uI σ 67 3) (hh_sA τ 22 (nI r) 2) := ⟨hr, by omega, t27, rfl, by rw [if_neg (by omega)]; exact s192, dm _ _, fun _ => ⟨o1, by rw [pp_sA_n (by omega)]; exact o2, by rw [pp_sA_n (by omega)]; exact o3, o4, fun _ => o5 (by omega), fun w => absurd w (by omega), fun _ => o7 (by omega), fun w => absurd w (by omega), fun w => absurd w (by omega), fun _ => o10 (by omega), fun w => absurd w (by omega)⟩⟩
      have FM2 : fq_M m (hh_sA τ 22 (nI r) 2) := fq_M_A (by omega) FM
      refine s7_t2 s67 ⟨fun w => ⟨fun w2 => next 4 r la _ _ (fq_C_I (by omega) FC) FM2 to4 (fun Q' K q' => mq_s2 hk2 hsn t0 t27 hr (by rw [hX]; exact pp_nf w (pp_t w2 q'))), fun w2 => ⟨fun w3 => stop (fun Q' K q' => mq_s2 hk2 hsn t0 t27 hr (by rw [hX]; exact pp_nf w (pp_f w2 (pp_nf w3 (q' _ FM2))))), fun w3 => next 4 r la _ _ (fq_C_I (by omega) FC) FM2 to4 (fun Q' K q' => mq_s2 hk2 hsn t0 t27 hr (by rw [hX]; exact pp_nf w (pp_f w2 (pp_nt w3 q'))))⟩⟩, fun w => next 3 r la _ _ (fq_C_I (by omega) FC) FM2 to3 (fun Q' K q' => mq_s2 hk2 hsn t0 t27 hr (by rw [hX]; exact pp_nt w q'))⟩
    by_cases z3 : s = 3
    · subst z3
      rw [if_pos (by omega)] at s67
      have pf := pf_off (x := X) (a := 50) (b := 48) (lo := 2) (n := 2) (by omega) (by omega) (by omega) (by omega) (by omega)
      refine s7_t3 s67 (s7_labels hr o1 (fun w => ⟨rfl, stop (fun Q' K q' => mq_s3 hk2 hsn t0 t27 hr (by rw [hX]; exact pp_f (fun z => w (by obtain ⟨j, hj, -, e⟩ := pf.mp z; exact ⟨j, hj, e⟩)) (q' _ (fq_M_A (by omega) FM))))⟩) (fun j hj e => ⟨rfl, next 4 r la _ (hh_sA τ 22 (nI r) (nI (2 + j))) (fq_C_I (by omega) (fq_C_A (by omega) FC)) (fq_M_A (by omega) FM) ⟨hr, by omega, t27, rfl, by rw [if_neg (by omega)]; exact s192, dl _ _ _ _, fun _ => ⟨o1, ?_, ?_, ?_, fun w => absurd w (by omega), fun _ => ⟨?_, 2 + j, by omega, by omega, ?_⟩, fun _ => ⟨?_, (o7 (by omega)).2⟩, fun w => absurd w (by omega), fun w => absurd w (by omega), fun _ => o10 (by omega), fun w => absurd w (by omega)⟩⟩ (fun Q' K q' => mq_s3 hk2 hsn t0 t27 hr (by rw [hX, show X - 48 = nI (2 + j) from e]; exact pp_t (pf.mpr ⟨j, hj, pf_sub (a := 50) (b := 48) (lo := 2) rfl e, e⟩) q'))⟩))
      · show hh_a (hh_sA σ 16 (nI r) (nI (2 + j))) 15 r = _
        rw [pp_sA_n (by omega), pp_sA_n (by omega)]; exact o2
      · show hh_a (hh_sA σ 16 (nI r) (nI (2 + j))) 17 r = _
        rw [pp_sA_n (by omega), pp_sA_n (by omega)]; exact o3
      · obtain ⟨j', hj', e'⟩ := o4
        exact ⟨j', hj', by show hh_a (hh_sA σ 16 (nI r) (nI (2 + j))) 15 r = _; rw [pp_sA_n (by omega)]; exact e'⟩
      · show hh_a (hh_sA σ 16 (nI r) (nI (2 + j))) 16 r = _
        rw [fq_at hr, fq_at hr]
      · show hh_a (hh_sA σ 16 (nI r) (nI (2 + j))) 16 r = _
        rw [fq_at hr]
      · show hh_a (hh_sA σ 16 (nI r) (nI (2 + j))) 18 r = _
        rw [pp_sA_n (by omega)]; exact (o7 (by omega)).1
    have hs4 : 4 ≤ s := fq_ge4 z0 z1 z2 z3
    have to7 : s ≤ 6 → fq_R 7 r la (hh_uI σ 67 7) (hh_sA τ 24 (nI r) 0) := fun hs6 => ⟨hr, by omega, t27, rfl, by rw [if_neg (by omega)]; exact s192, dm _ _, fun _ => ⟨o1, by rw [pp_sA_n (by omega)]; exact o2, by rw [pp_sA_n (by omega)]; exact o3, o4, fun w => absurd w (by omega), fun _ => by rw [pp_sA_n (by omega)]; exact o6 hs4, fun _ => o7 (by omega), fun _ => by rw [fq_at hr]; exact (o7 (by omega)).1, fun w => absurd w (by omega), fun w => absurd w (by omega), fun w => absurd w (by omega)⟩⟩
    by_cases z4 : s = 4
    · subst z4
      rw [if_pos (by omega)] at s67
      refine s7_t4 s67 ⟨fun w => ⟨fun w2 => stop (fun Q' K q' => mq_s4 hk2 hsn t0 t27 hr (by rw [hX]; exact pp_nf w2 (pp_nf w (q' τ FM)))), fun w2 => next 7 r la _ _ (fq_C_I (by omega) FC) (fq_M_A (by omega) FM) (to7 (by omega)) (fun Q' K q' => mq_s4 hk2 hsn t0 t27 hr (by rw [hX]; exact pp_nt w2 q'))⟩, fun w => ?_⟩
      have n33 : ¬ X = 33 := fun z => absurd (w.symm.trans z) (by decide)
      rw [o1]
      refine ⟨fun w2 => stop (fun Q' K q' => mq_s4 hk2 hsn t0 t27 hr (by rw [hX]; exact pp_nf n33 (pp_nt w (pp_t w2 (q' τ FM))))), fun w2 => next 5 r (-1) _ τ (fq_C_I (by omega) FC) FM ⟨hr, by omega, t27, rfl, by rw [if_neg (by omega)]; exact s192, D, fun _ => ⟨o1, o2, o3, o4, fun w => absurd w (by omega), fun _ => o6 (by omega), fun _ => o7 (by omega), fun w => absurd w (by omega), fun w => absurd w (by omega), fun w => absurd w (by omega), fun _ => o10 (by omega)⟩⟩ (fun Q' K q' => mq_s4 hk2 hsn t0 t27 hr (by rw [hX]; exact pp_nf n33 (pp_nt w (pp_f w2 q'))))⟩
    have need : s = 5 ∨ s = 6 → (∀ (Q' : Int32 → hh_S → Prop) (K : Int32 → Int32 → Int32 → hh_S → Prop), wq_X9_faultOf_276 K (nI s) la (nI k) X (nI r) (-6) Q' τ → wq_X9_faultOf_11 Q' K (nI s) la (nI k) τ) → wp_X7_takesNeed (X - 97) σ (fun r2 σ3 => (narrow .boolean (.int r2) = .int r2) ∧ ((¬ r2 = 0 → K (nI (k + 1)) σ3) ∧ (r2 = 0 → Qc (nI k) σ3))) := by
      intro h56 up
      have pin : fa_first (fun j => decide (hh_a σ 15 j = X - 97)) r < r → (¬ X < 97 ∧ ¬ 104 < X) := by
        intro w
        have y := of_decide_eq_true (fa_first_yes _ _ w)
        obtain ⟨j, hj, e⟩ := (D _ w).2.2.2.2.2
        have e2 : X - 97 = nI (0 + j) := by rw [show 0 + j = j by omega]; exact y.symm.trans e
        exact (pf_off (a := 97) (b := 97) (lo := 0) (n := 7) (by omega) (by omega) (by omega) (by omega) (by omega)).mpr ⟨j, by omega, pf_sub (a := 97) (b := 97) (lo := 0) rfl e2, e2⟩
      refine s7_need (p := fun j => decide (hh_a σ 15 j = X - 97)) hr o1 (o11 h56) (fun _ _ => rfl) (fun w => ⟨rfl, stop (fun Q' K q' => up Q' K (mq_276 (p := fun j => decide (hh_a σ 15 j = X - 97)) (by omega) hr (pe _) (pp_sw (pp_f (fun z => w z.2) (q' τ FM)))))⟩) (fun w w2 => ⟨rfl, ?_⟩)
      refine next 6 r (X - 97) _ (hh_sA τ 23 (nI r) (hh_a τ 23 r ||| ((1 : Int32) <<< (nI (fa_first (fun j => decide (hh_a σ 15 j = X - 97)) r) &&& 31)))) (fq_C_I (by omega) (fq_C_I (by omega) (fq_C_A (by omega) FC))) (fq_M_A (by omega) FM) ⟨hr, by omega, t27, rfl, by rw [if_neg (by omega)]; exact s192, dl _ _ _ _, fun _ => ⟨o1, ?_, ?_, ?_, fun w => absurd w (by omega), fun _ => ?_, fun _ => ⟨?_, (o7 (by omega)).2⟩, fun w => absurd w (by omega), fun w => absurd w (by omega), fun w => absurd w (by omega), fun _ => rfl⟩⟩ (fun Q' K q' => up Q' K (mq_276 (p := fun j => decide (hh_a σ 15 j = X - 97)) (by omega) hr (pe _) (pp_sw (pp_t ⟨pin w2, w, w2⟩ q'))))
      · show hh_a (hh_sA σ 17 (nI r) _) 15 r = _
        rw [pp_sA_n (by omega), pp_sA_n (by omega)]; exact o2
      · show hh_a (hh_sA σ 17 (nI r) _) 17 r = _
        rw [fq_at hr, fq_at hr, o3]
      · obtain ⟨j', hj', e'⟩ := o4
        exact ⟨j', hj', by show hh_a (hh_sA σ 17 (nI r) _) 15 r = _; rw [pp_sA_n (by omega)]; exact e'⟩
      · show hh_a (hh_sA σ 17 (nI r) _) 16 r = _ ∧ ∃ L, 2 ≤ L ∧ L ≤ 4 ∧ hh_a (hh_sA σ 17 (nI r) _) 16 r = _
        rw [pp_sA_n (by omega), pp_sA_n (by omega)]
        exact o6 (by omega)
      · show hh_a (hh_sA σ 17 (nI r) _) 18 r = _
        rw [pp_sA_n (by omega)]; exact (o7 (by omega)).1
    by_cases z5 : s = 5
    · subst z5
      rw [if_pos (by omega)] at s67
      exact s7_t5 s67 (need (by omega) (fun Q' K w => mq_s5 hk2 hsn t0 t27 (by rw [hX]; exact w)))
    by_cases z6 : s = 6
    · subst z6
      rw [if_pos (by omega)] at s67
      exact s7_t6 s67 ⟨fun w => need (by omega) (fun Q' K w2 => mq_s6 hk2 hsn t0 t27 hr (by rw [hX]; exact pp_nf w w2)), fun w => next 7 r la _ _ (fq_C_I (by omega) FC) (fq_M_A (by omega) FM) (to7 (by omega)) (fun Q' K q' => mq_s6 hk2 hsn t0 t27 hr (by rw [hX]; exact pp_nt w q'))⟩
    have hs7 : 7 ≤ s := fq_ge7 hs4 z4 z5 z6
    have s70 : σ.1 70 = nI (s - 7) := by
      by_cases w : s = 7
      · rw [w]; exact (o7 (by omega)).2
      · exact o9 (by omega)
    have pf := pf_off (x := X) (a := 48) (b := 48) (lo := 0) (n := 9) (by omega) (by omega) (by omega) (by omega) (by omega)
    have digit : (¬ X = 59 ∨ s = 7) → wp_X7_takesDigit (X - 48) σ (fun r2 σ3 => (narrow .boolean (.int r2) = .int r2) ∧ ((¬ r2 = 0 → K (nI (k + 1)) σ3) ∧ (r2 = 0 → Qc (nI k) σ3))) := by
      intro n59
      refine s7_digit hr o1 s70 (by omega) (fun w => ⟨rfl, stop (fun Q' K q' => mq_s7 hk2 hsn t0 t27 hr hs7 hs (fun y1 y2 => absurd ⟨(by rw [hX] at y1; obtain ⟨j, hj, -, e⟩ := pf.mp y1; exact ⟨j, hj, e⟩), by omega⟩ w) (fun y1 y2 y3 => by rw [hX] at y1; rcases n59 with n | n; exact absurd y1 n; omega) (fun _ _ => q' τ FM))⟩) (fun j hj e g3 => ⟨rfl, ?_⟩)
      have xj : (¬ X < 48 ∧ ¬ 57 < X) := pf.mpr ⟨j, hj, pf_sub (a := 48) (b := 48) (lo := 0) rfl e, e⟩
      have ev : hh_a σ 18 r * 10 + (X - 48) = 10 * hh_a τ 24 r + X - 48 := by rw [o8 hs7, Int32.mul_comm, Int32.sub_eq_add_neg, Int32.sub_eq_add_neg, ← Int32.add_assoc]
      refine next (s + 1) r la _ (hh_sA τ 24 (nI r) (10 * hh_a τ 24 r + X - 48)) (fq_C_I (by omega) (fq_C_I (by omega) (fq_C_A (by omega) FC))) (fq_M_A (by omega) FM) ⟨hr, by omega, t27, by rw [if_neg (by omega)]; rfl, by rw [if_neg (by omega)]; exact s192, dl _ _ _ _, fun _ => ⟨o1, ?_, ?_, ?_, fun w => absurd w (by omega), fun _ => ?_, fun w => absurd w (by omega), fun _ => ?_, fun _ => by rw [show s + 1 - 7 = s - 7 + 1 by omega]; rfl, fun w => absurd w (by omega), fun w => absurd w (by omega)⟩⟩ (fun Q' K q' => mq_s7 hk2 hsn t0 t27 hr hs7 hs (fun _ _ => by rw [hX]; exact q') (fun y1 y2 y3 => by rw [hX] at y1; rw [y1] at xj; exact absurd (by decide) xj.2) (fun y1 y2 => absurd ⟨(by rw [hX]; exact xj), by omega⟩ y1))
      · show hh_a (hh_sA σ 18 (nI r) _) 15 r = _
        rw [pp_sA_n (by omega), pp_sA_n (by omega)]; exact o2
      · show hh_a (hh_sA σ 18 (nI r) _) 17 r = _
        rw [pp_sA_n (by omega), pp_sA_n (by omega)]; exact o3
      · obtain ⟨j', hj', e'⟩ := o4
        exact ⟨j', hj', by show hh_a (hh_sA σ 18 (nI r) _) 15 r = _; rw [pp_sA_n (by omega)]; exact e'⟩
      · show hh_a (hh_sA σ 18 (nI r) _) 16 r = _ ∧ ∃ L, 2 ≤ L ∧ L ≤ 4 ∧ hh_a (hh_sA σ 18 (nI r) _) 16 r = _
        rw [pp_sA_n (by omega), pp_sA_n (by omega)]
        exact o6 (by omega)
      · show hh_a (hh_sA σ 18 (nI r) _) 18 r = _
        rw [fq_at hr, fq_at hr, ev]
    by_cases z7 : s = 7
    · subst z7
      rw [if_pos (by omega)] at s67
      exact s7_t7 s67 (digit (Or.inr rfl))
    rw [if_neg (by omega)] at s67
    refine s7_t8 s67 ⟨fun w => digit (Or.inl w), fun w => ?_⟩
    have nd : ¬ (¬ X < 48 ∧ ¬ 57 < X) := fun z => by rw [w] at z; exact z.2 (by decide)
    rw [s192]
    refine pp_c _ (pp_le (a := 8) (by omega) (by omega)) (fun w2 => stop (fun Q' K q' => mq_s7 hk2 hsn t0 t27 hr hs7 hs (fun y1 _ => by rw [hX] at y1; exact absurd y1 nd) (fun _ _ y3 => by omega) (fun _ _ => q' τ FM))) (fun w2 => next 0 (r + 1) la _ (hh_uI τ 27 (nI (r + 1))) (fq_C_I (by omega) FC) (fq_M_I FM) ⟨by omega, by omega, rfl, rfl, by rw [if_pos rfl]; exact s192, ?_, fun w => absurd w (by omega)⟩ (fun Q' K q' => mq_s7 hk2 hsn t0 t27 hr hs7 hs (fun y1 _ => by rw [hX] at y1; exact absurd y1 nd) (fun _ _ _ => q') (fun _ y2 => absurd ⟨by rw [hX]; exact w, by omega, by omega⟩ y2)))
    intro j hj
    by_cases z : j = r
    · subst z
      exact ⟨o2, (o6 (by omega)).1, o3, o8 (by omega), (o6 (by omega)).2, o4⟩
    · exact D j (by omega)
