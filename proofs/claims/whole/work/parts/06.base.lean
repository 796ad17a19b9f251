/-! ===== hh: one pure state (int scalars, long scalars, int arrays, long arrays) for a system of objects; its world; rows over it ===== -/
abbrev hh_S : Type := (Nat → Int32) × (Nat → Int64) × (Nat → Nat → Int32) × (Nat → Nat → Int64)
abbrev hh_I (σ : hh_S) (k : Nat) : Int32 := σ.1 k
abbrev hh_L (σ : hh_S) (k : Nat) : Int64 := σ.2.1 k
def hh_rA (σ : hh_S) (k : Nat) (i : Int32) : Int32 := σ.2.2.1 k i.toNatClampNeg
def hh_rB (σ : hh_S) (k : Nat) (i : Int32) : Int64 := σ.2.2.2 k i.toNatClampNeg
def hh_uI (σ : hh_S) (k : Nat) (v : Int32) : hh_S := (fun j => if j = k then v else σ.1 j, σ.2)
def hh_uL (σ : hh_S) (k : Nat) (v : Int64) : hh_S := (σ.1, fun j => if j = k then v else σ.2.1 j, σ.2.2)
def hh_uA (σ : hh_S) (k : Nat) (f : Nat → Int32) : hh_S := (σ.1, σ.2.1, fun j => if j = k then f else σ.2.2.1 j, σ.2.2.2)
def hh_uB (σ : hh_S) (k : Nat) (f : Nat → Int64) : hh_S := (σ.1, σ.2.1, σ.2.2.1, fun j => if j = k then f else σ.2.2.2 j)
def hh_sA (σ : hh_S) (k : Nat) (i x : Int32) : hh_S := hh_uA σ k (upd (σ.2.2.1 k) i.toNatClampNeg x)
def hh_sB (σ : hh_S) (k : Nat) (i : Int32) (x : Int64) : hh_S := hh_uB σ k (vp_updL (σ.2.2.2 k) i.toNatClampNeg x)
/-- a system: ((objects, cells), class of an object, its number of fields, a field (kind: 0 int, 1 long, 2 reference; the cell referred to), an array (kind: 0 int, 1 boolean, 2 long, 3 rows; length; first row)) -/
abbrev hh_Y : Type := (Nat × Nat) × (Nat → Nat) × (Nat → Nat) × (Nat → Nat → Nat × Nat) × (Nat → Nat × Nat × Nat)
def hh_fv (Y : hh_Y) (ad : Nat → Nat) (σ : hh_S) (o j : Nat) : Value := if (Y.2.2.2.1 o j).1 = 0 then .int (σ.1 (64 * o + j)) else if (Y.2.2.2.1 o j).1 = 1 then .long (σ.2.1 (64 * o + j)) else .ref (ad (Y.2.2.2.1 o j).2)
def hh_fs (Y : hh_Y) (ad : Nat → Nat) (σ : hh_S) (o : Nat) : List Value := (List.range (Y.2.2.1 o)).map (hh_fv Y ad σ o)
def hh_av (Y : hh_Y) (cy : Nat → ClassId) (ad : Nat → Nat) (σ : hh_S) (k : Nat) : ClassId × vp_A := if (Y.2.2.2.2 k).1 = 0 then (cy 0, (Y.2.2.2.2 k).2.1, .inl (σ.2.2.1 k)) else if (Y.2.2.2.2 k).1 = 1 then (cy 1, (Y.2.2.2.2 k).2.1, .inl (σ.2.2.1 k)) else if (Y.2.2.2.2 k).1 = 2 then (cy 2, (Y.2.2.2.2 k).2.1, .inr (.inl (σ.2.2.2 k))) else (cy 3, (Y.2.2.2.2 k).2.1, .inr (.inr (.inr (.inr (fun r => if r < (Y.2.2.2.2 k).2.1 then some (ad ((Y.2.2.2.2 k).2.2 + r)) else none)))))
def hh_cv (Y : hh_Y) (cy : Nat → ClassId) (ad : Nat → Nat) (σ : hh_S) (k : Nat) : va_E := if k < Y.1.1 then .inr (Y.2.1 k, hh_fs Y ad σ k) else .inl (hh_av Y cy ad σ k)
def hh_ws (Y : hh_Y) (cy : Nat → ClassId) (ad : Nat → Nat) (σ : hh_S) : va_W := (List.range Y.1.2).map (fun k => (ad k, hh_cv Y cy ad σ k))
def hh_ty (cy : Nat → ClassId) : List (ClassId × FieldType) := [(cy 0, .int), (cy 1, .boolean), (cy 2, .long), (cy 3, .array .int)]
def hh_A (Y : hh_Y) (ad : Nat → Nat) : Nat → Prop := fun q => ∃ k, k < Y.1.2 ∧ q = ad k
def hh_J (Y : hh_Y) (ad : Nat → Nat) : Prop := ∀ i j : Nat, i < Y.1.2 → j < Y.1.2 → ad i = ad j → i = j
/-- the world, at a state; and inside a walk -/
def hh_B (D : va_G) (cl : List vw_C) (Y : hh_Y) (cy : Nat → ClassId) (ad : Nat → Nat) (σ : hh_S) (U : State) : Prop := va_P D cl (hh_ws Y cy ad σ) U.heap ∧ va_K D cl (hh_ty cy) U
def hh_H (D : va_G) (cl : List vw_C) (Y : hh_Y) (cy : Nat → ClassId) (ad : Nat → Nat) (H0 : Heap) (σ : hh_S) (H : Heap) (locs : List Loc) : Prop := va_P D cl (hh_ws Y cy ad σ) H ∧ va_S (hh_A Y ad) H0 H locs
/-- what doesn't move inside a walk -/
def hh_X (p : Program) (m : MethodId) (c : Code) (cc : ByteArray) (nL : Nat) (s : State) (args : Array Value) (Ts : List Cond) (own : String) (D : va_G) (cl : List vw_C) (Y : hh_Y) (cy : Nat → ClassId) (ad : Nat → Nat) : Prop := CallFix p m c cc nL s args Ts own ∧ va_K D cl (hh_ty cy) s ∧ hh_J Y ad
/-- cell k is an array of kind t, length n, first row b -/
def hh_ar (Y : hh_Y) (k t n b : Nat) : Prop := k < Y.1.2 ∧ ¬ k < Y.1.1 ∧ Y.2.2.2.2 k = (t, n, b)
/-- cell o is an object of class ci with nf fields, and its field j is of kind t, to cell k -/
def hh_fd (Y : hh_Y) (o j t k : Nat) : Prop := o < Y.1.1 ∧ o < Y.1.2 ∧ j < Y.2.2.1 o ∧ Y.2.2.2.1 o j = (t, k)
theorem hh_ws_at {Y : hh_Y} {cy : Nat → ClassId} {ad : Nat → Nat} {σ : hh_S} {k : Nat} (hk : k < Y.1.2) : (hh_ws Y cy ad σ)[k]? = some (ad k, hh_cv Y cy ad σ k) := by
  unfold hh_ws
  rw [List.getElem?_map, List.getElem?_range hk]
  rfl
theorem hh_ws_none {Y : hh_Y} {cy : Nat → ClassId} {ad : Nat → Nat} {σ : hh_S} {k : Nat} (hk : ¬ k < Y.1.2) : (hh_ws Y cy ad σ)[k]? = none := by
  unfold hh_ws
  rw [List.getElem?_map, List.getElem?_eq_none (by rw [List.length_range]; omega)]
  rfl
theorem hh_ws_len {Y : hh_Y} {cy : Nat → ClassId} {ad : Nat → Nat} {σ : hh_S} : (hh_ws Y cy ad σ).length = Y.1.2 := by
  unfold hh_ws
  rw [List.length_map, List.length_range]
theorem hh_ws_set {Y : hh_Y} {cy : Nat → ClassId} {ad : Nat → Nat} {σ σ' : hh_S} {k : Nat} (hk : k < Y.1.2) {e : va_E} (he : e = hh_cv Y cy ad σ' k) (hj : ∀ j : Nat, j ≠ k → hh_cv Y cy ad σ' j = hh_cv Y cy ad σ j) : (hh_ws Y cy ad σ).set k (ad k, e) = hh_ws Y cy ad σ' := by
  subst he
  apply List.ext_getElem?
  intro j
  by_cases h : j = k
  · subst h
    rw [List.getElem?_set_self (by rw [hh_ws_len]; exact hk), hh_ws_at hk]
  · rw [List.getElem?_set_ne (fun q => h q.symm)]
    by_cases hn : j < Y.1.2
    · rw [hh_ws_at hn, hh_ws_at hn, hj j h]
    · rw [hh_ws_none hn, hh_ws_none hn]
theorem hh_D {Y : hh_Y} {cy : Nat → ClassId} {ad : Nat → Nat} (J : hh_J Y ad) (σ : hh_S) : va_D (hh_A Y ad) (hh_ws Y cy ad σ) := by
  refine ⟨fun i j x y hi hj hxy => ?_, fun k q hq => ?_⟩
  · by_cases h1 : i < Y.1.2
    · by_cases h2 : j < Y.1.2
      · rw [hh_ws_at h1] at hi
        rw [hh_ws_at h2] at hj
        cases hi
        cases hj
        exact J i j h1 h2 hxy
      · rw [hh_ws_none h2] at hj
        cases hj
    · rw [hh_ws_none h1] at hi
      cases hi
  · by_cases h1 : k < Y.1.2
    · rw [hh_ws_at h1] at hq
      cases hq
      exact ⟨k, h1, rfl⟩
    · rw [hh_ws_none h1] at hq
      cases hq
theorem hh_at_arr {Y : hh_Y} {cy : Nat → ClassId} {ad : Nat → Nat} {σ : hh_S} {k t n b : Nat} (h : hh_ar Y k t n b) : (hh_ws Y cy ad σ)[k]? = some (ad k, .inl (hh_av Y cy ad σ k)) := by
  rw [hh_ws_at h.1]
  unfold hh_cv
  rw [if_neg h.2.1]
theorem hh_av0 {Y : hh_Y} {cy : Nat → ClassId} {ad : Nat → Nat} {σ : hh_S} {k n b : Nat} (h : hh_ar Y k 0 n b) : hh_av Y cy ad σ k = (cy 0, n, .inl (σ.2.2.1 k)) := by
  unfold hh_av
  rw [h.2.2]
  rfl
theorem hh_av1 {Y : hh_Y} {cy : Nat → ClassId} {ad : Nat → Nat} {σ : hh_S} {k n b : Nat} (h : hh_ar Y k 1 n b) : hh_av Y cy ad σ k = (cy 1, n, .inl (σ.2.2.1 k)) := by
  unfold hh_av
  rw [h.2.2]
  rfl
theorem hh_av2 {Y : hh_Y} {cy : Nat → ClassId} {ad : Nat → Nat} {σ : hh_S} {k n b : Nat} (h : hh_ar Y k 2 n b) : hh_av Y cy ad σ k = (cy 2, n, .inr (.inl (σ.2.2.2 k))) := by
  unfold hh_av
  rw [h.2.2]
  rfl
theorem hh_av3 {Y : hh_Y} {cy : Nat → ClassId} {ad : Nat → Nat} {σ : hh_S} {k n b : Nat} (h : hh_ar Y k 3 n b) : hh_av Y cy ad σ k = (cy 3, n, .inr (.inr (.inr (.inr (fun r => if r < n then some (ad (b + r)) else none))))) := by
  unfold hh_av
  rw [h.2.2]
  rfl
theorem hh_at_obj {Y : hh_Y} {cy : Nat → ClassId} {ad : Nat → Nat} {σ : hh_S} {o j t k : Nat} (h : hh_fd Y o j t k) : (hh_ws Y cy ad σ)[o]? = some (ad o, .inr (Y.2.1 o, hh_fs Y ad σ o)) := by
  rw [hh_ws_at h.2.1]
  unfold hh_cv
  rw [if_pos h.1]
theorem hh_fs_at {Y : hh_Y} {ad : Nat → Nat} {σ : hh_S} {o j t k : Nat} (h : hh_fd Y o j t k) : (hh_fs Y ad σ o)[j]? = some (hh_fv Y ad σ o j) := by
  unfold hh_fs
  rw [List.getElem?_map, List.getElem?_range h.2.2.1]
  rfl
theorem hh_fv0 {Y : hh_Y} {ad : Nat → Nat} {σ : hh_S} {o j k : Nat} (h : hh_fd Y o j 0 k) : hh_fv Y ad σ o j = .int (σ.1 (64 * o + j)) := by
  unfold hh_fv
  rw [h.2.2.2]
  rfl
theorem hh_fv1 {Y : hh_Y} {ad : Nat → Nat} {σ : hh_S} {o j k : Nat} (h : hh_fd Y o j 1 k) : hh_fv Y ad σ o j = .long (σ.2.1 (64 * o + j)) := by
  unfold hh_fv
  rw [h.2.2.2]
  rfl
theorem hh_fv2 {Y : hh_Y} {ad : Nat → Nat} {σ : hh_S} {o j k : Nat} (h : hh_fd Y o j 2 k) : hh_fv Y ad σ o j = .ref (ad k) := by
  unfold hh_fv
  rw [h.2.2.2]
  rfl
theorem hh_fs_uA {Y : hh_Y} {ad : Nat → Nat} {σ : hh_S} {o k : Nat} {f : Nat → Int32} : hh_fs Y ad (hh_uA σ k f) o = hh_fs Y ad σ o := rfl
theorem hh_fs_uB {Y : hh_Y} {ad : Nat → Nat} {σ : hh_S} {o k : Nat} {f : Nat → Int64} : hh_fs Y ad (hh_uB σ k f) o = hh_fs Y ad σ o := rfl
theorem hh_cv_uA {Y : hh_Y} {cy : Nat → ClassId} {ad : Nat → Nat} {σ : hh_S} {k : Nat} {f : Nat → Int32} (j : Nat) (h : j ≠ k) : hh_cv Y cy ad (hh_uA σ k f) j = hh_cv Y cy ad σ j := by
  have e : (hh_uA σ k f).2.2.1 j = σ.2.2.1 j := if_neg h
  unfold hh_cv hh_av
  rw [e]
  rfl
theorem hh_cv_uB {Y : hh_Y} {cy : Nat → ClassId} {ad : Nat → Nat} {σ : hh_S} {k : Nat} {f : Nat → Int64} (j : Nat) (h : j ≠ k) : hh_cv Y cy ad (hh_uB σ k f) j = hh_cv Y cy ad σ j := by
  have e : (hh_uB σ k f).2.2.2 j = σ.2.2.2 j := if_neg h
  unfold hh_cv hh_av
  rw [e]
  rfl
theorem hh_fs_uI {Y : hh_Y} {ad : Nat → Nat} {σ : hh_S} {o j : Nat} {v : Int32} (o2 : Nat) (h : o2 ≠ o) (hn : ∀ o : Nat, Y.2.2.1 o ≤ 64) (hj : j < 64) : hh_fs Y ad (hh_uI σ (64 * o + j) v) o2 = hh_fs Y ad σ o2 := by
  unfold hh_fs
  apply List.map_congr_left
  intro i hi
  have hi := List.mem_range.mp hi
  have := hn o2
  have e : (hh_uI σ (64 * o + j) v).1 (64 * o2 + i) = σ.1 (64 * o2 + i) := if_neg (by omega)
  unfold hh_fv
  rw [e]
  rfl
theorem hh_fs_uL {Y : hh_Y} {ad : Nat → Nat} {σ : hh_S} {o j : Nat} {v : Int64} (o2 : Nat) (h : o2 ≠ o) (hn : ∀ o : Nat, Y.2.2.1 o ≤ 64) (hj : j < 64) : hh_fs Y ad (hh_uL σ (64 * o + j) v) o2 = hh_fs Y ad σ o2 := by
  unfold hh_fs
  apply List.map_congr_left
  intro i hi
  have hi := List.mem_range.mp hi
  have := hn o2
  have e : (hh_uL σ (64 * o + j) v).2.1 (64 * o2 + i) = σ.2.1 (64 * o2 + i) := if_neg (by omega)
  unfold hh_fv
  rw [e]
  rfl
theorem hh_fs_setI {Y : hh_Y} {ad : Nat → Nat} {σ : hh_S} {o j k : Nat} {v : Int32} (h : hh_fd Y o j 0 k) : (hh_fs Y ad σ o).set j (.int v) = hh_fs Y ad (hh_uI σ (64 * o + j) v) o := by
  apply List.ext_getElem?
  intro i
  have hl : (hh_fs Y ad σ o).length = Y.2.2.1 o := by unfold hh_fs; rw [List.length_map, List.length_range]
  by_cases hi : i = j
  · subst hi
    rw [List.getElem?_set_self (by rw [hl]; exact h.2.2.1), hh_fs_at h, hh_fv0 h]
    exact congrArg (fun x => some (Value.int x)) (if_pos rfl).symm
  · rw [List.getElem?_set_ne (fun q => hi q.symm)]
    unfold hh_fs
    rw [List.getElem?_map, List.getElem?_map]
    have e : (hh_uI σ (64 * o + j) v).1 (64 * o + i) = σ.1 (64 * o + i) := if_neg (by omega)
    have e2 : hh_fv Y ad (hh_uI σ (64 * o + j) v) o i = hh_fv Y ad σ o i := by
      unfold hh_fv
      rw [e]
      rfl
    by_cases hn : i < Y.2.2.1 o
    · rw [List.getElem?_range hn]
      show some _ = some _
      rw [e2]
    · rw [List.getElem?_eq_none (by rw [List.length_range]; omega)]
      rfl
theorem hh_fs_setL {Y : hh_Y} {ad : Nat → Nat} {σ : hh_S} {o j k : Nat} {v : Int64} (h : hh_fd Y o j 1 k) : (hh_fs Y ad σ o).set j (.long v) = hh_fs Y ad (hh_uL σ (64 * o + j) v) o := by
  apply List.ext_getElem?
  intro i
  have hl : (hh_fs Y ad σ o).length = Y.2.2.1 o := by unfold hh_fs; rw [List.length_map, List.length_range]
  by_cases hi : i = j
  · subst hi
    rw [List.getElem?_set_self (by rw [hl]; exact h.2.2.1), hh_fs_at h, hh_fv1 h]
    exact congrArg (fun x => some (Value.long x)) (if_pos rfl).symm
  · rw [List.getElem?_set_ne (fun q => hi q.symm)]
    unfold hh_fs
    rw [List.getElem?_map, List.getElem?_map]
    have e : (hh_uL σ (64 * o + j) v).2.1 (64 * o + i) = σ.2.1 (64 * o + i) := if_neg (by omega)
    have e2 : hh_fv Y ad (hh_uL σ (64 * o + j) v) o i = hh_fv Y ad σ o i := by
      unfold hh_fv
      rw [e]
      rfl
    by_cases hn : i < Y.2.2.1 o
    · rw [List.getElem?_range hn]
      show some _ = some _
      rw [e2]
    · rw [List.getElem?_eq_none (by rw [List.length_range]; omega)]
      rfl
theorem hh_cv_uI {Y : hh_Y} {cy : Nat → ClassId} {ad : Nat → Nat} {σ : hh_S} {o j : Nat} {v : Int32} (hn : ∀ o : Nat, Y.2.2.1 o ≤ 64) (hj : j < 64) (i : Nat) (h : i ≠ o) : hh_cv Y cy ad (hh_uI σ (64 * o + j) v) i = hh_cv Y cy ad σ i := by
  unfold hh_cv
  rw [hh_fs_uI i h hn hj]
  rfl
theorem hh_cv_uL {Y : hh_Y} {cy : Nat → ClassId} {ad : Nat → Nat} {σ : hh_S} {o j : Nat} {v : Int64} (hn : ∀ o : Nat, Y.2.2.1 o ≤ 64) (hj : j < 64) (i : Nat) (h : i ≠ o) : hh_cv Y cy ad (hh_uL σ (64 * o + j) v) i = hh_cv Y cy ad σ i := by
  unfold hh_cv
  rw [hh_fs_uL i h hn hj]
  rfl
section HHW
variable {p : Program} {l : Launch} {e : Env} {R : Room} {s : State} {m : MethodId} {args : Array Value} {below : List Frame} {meth : Method} {c : Code} {H : Heap} {locs : List Loc} {cells slots : Nat} {Q : State → Prop}
variable {cc : ByteArray} {pc : Nat} {ls : Array Slot} {rest : List Value} {D : va_G} {cl : List vw_C} {Y : hh_Y} {cy : Nat → ClassId} {ad : Nat → Nat} {σ : hh_S} {nL : Nat} {Ts : List Cond} {own : String} {H0 : Heap}
theorem hh_ild (X : hh_X p m c cc nL s args Ts own D cl Y cy ad) (h : hh_H D cl Y cy ad H0 σ H locs) {k n b : Nat} (ha : hh_ar Y k 0 n b) {i : Int32} (hin : vp_in i n) (hdg : decode cc pc = .ok (.iaload, 1))
    (kk : W p l e R s m args below meth c H locs cells slots Q (F0 m (pc + 1) ls (.int (hh_rA σ k i) :: rest))) : W p l e R s m args below meth c H locs cells slots Q (F0 m pc ls (.int i :: .ref (ad k) :: rest)) :=
  va_iald X.1.1 X.1.2.1 X.2.1 h.1 k 0 ((hh_at_arr ha).trans (by rw [hh_av0 ha])) rfl hin hdg kk
theorem hh_zld (X : hh_X p m c cc nL s args Ts own D cl Y cy ad) (h : hh_H D cl Y cy ad H0 σ H locs) {k n b : Nat} (ha : hh_ar Y k 1 n b) {i : Int32} (hin : vp_in i n) (hdg : decode cc pc = .ok (.baload, 1))
    (kk : W p l e R s m args below meth c H locs cells slots Q (F0 m (pc + 1) ls (.int (hh_rA σ k i) :: rest))) : W p l e R s m args below meth c H locs cells slots Q (F0 m pc ls (.int i :: .ref (ad k) :: rest)) :=
  va_zald X.1.1 X.1.2.1 X.2.1 h.1 k 1 ((hh_at_arr ha).trans (by rw [hh_av1 ha])) rfl hin hdg kk
theorem hh_lld (X : hh_X p m c cc nL s args Ts own D cl Y cy ad) (h : hh_H D cl Y cy ad H0 σ H locs) {k n b : Nat} (ha : hh_ar Y k 2 n b) {i : Int32} (hin : vp_in i n) (hdg : decode cc pc = .ok (.laload, 1))
    (kk : W p l e R s m args below meth c H locs cells slots Q (F0 m (pc + 1) ls (.long (hh_rB σ k i) :: rest))) : W p l e R s m args below meth c H locs cells slots Q (F0 m pc ls (.int i :: .ref (ad k) :: rest)) :=
  va_lald X.1.1 X.1.2.1 X.2.1 h.1 k 2 ((hh_at_arr ha).trans (by rw [hh_av2 ha])) rfl hin hdg kk
theorem hh_ald (X : hh_X p m c cc nL s args Ts own D cl Y cy ad) (h : hh_H D cl Y cy ad H0 σ H locs) {k n b : Nat} (ha : hh_ar Y k 3 n b) {i : Int32} (hin : vp_in i n) (hdg : decode cc pc = .ok (.aaload, 1))
    (kk : W p l e R s m args below meth c H locs cells slots Q (F0 m (pc + 1) ls (.ref (ad (b + i.toNatClampNeg)) :: rest))) : W p l e R s m args below meth c H locs cells slots Q (F0 m pc ls (.int i :: .ref (ad k) :: rest)) := by
  have hlt : i.toNatClampNeg < n := Nat.not_le.mp fun q => hin (Or.inr q)
  have hc := h.1 k _ ((hh_at_arr ha).trans (by rw [hh_av3 ha]))
  have ht : (hh_ty cy)[3]? = some (cy 3, .array .int) := rfl
  refine W.aald (v := .ref (ad (b + i.toNatClampNeg))) (ty := .array .int) X.1.1 X.1.2.1 hc ((X.2.1.2 3 _ ht).1 n (fun j => va_rf (if j < n then some (ad (b + j)) else none))) rfl (fun q => by cases q) (by show ¬ (i < 0 ∨ (arrV _ _ _).slots.size ≤ _); rw [arrV_size]; exact hin) ?_ rfl rfl hdg kk
  show (arrV _ _ _).slots[_]? = _
  rw [arrV_read _ _ hlt]
  show some (va_rf (if i.toNatClampNeg < n then some (ad (b + i.toNatClampNeg)) else none)) = _
  rw [if_pos hlt]
  rfl
theorem hh_ist (X : hh_X p m c cc nL s args Ts own D cl Y cy ad) (h : hh_H D cl Y cy ad H0 σ H locs) {k n b : Nat} (ha : hh_ar Y k 0 n b) {i x : Int32} (hin : vp_in i n) (hdg : decode cc pc = .ok (.iastore, 1))
    (kk : ∀ (τ : hh_S) (H1 : Heap) (locs1 : List Loc), τ = hh_sA σ k i x → hh_H D cl Y cy ad H0 τ H1 locs1 → W p l e R s m args below meth c H1 locs1 cells slots Q (F0 m (pc + 1) ls rest)) : W p l e R s m args below meth c H locs cells slots Q (F0 m pc ls (.int x :: .int i :: .ref (ad k) :: rest)) := by
  refine va_iast X.1.1 X.1.2.1 X.2.1 h.1 (hh_D X.2.2 σ) h.2 k 0 (f := σ.2.2.1 k) (n := n) ((hh_at_arr ha).trans (by rw [hh_av0 ha])) rfl hin hdg (fun H1 locs1 hP _ hS => kk _ H1 locs1 rfl ⟨?_, hS⟩)
  rw [← hh_ws_set (σ := σ) (σ' := hh_sA σ k i x) ha.1 (e := .inl (cy 0, n, .inl (upd (σ.2.2.1 k) i.toNatClampNeg x))) ?_ (fun j hj => hh_cv_uA j hj)]
  · exact hP
  · unfold hh_cv
    rw [if_neg ha.2.1, hh_av0 ha]
    exact congrArg (fun z => Sum.inl (cy 0, n, Sum.inl z)) (if_pos rfl).symm
theorem hh_zst (X : hh_X p m c cc nL s args Ts own D cl Y cy ad) (h : hh_H D cl Y cy ad H0 σ H locs) {k n b : Nat} (ha : hh_ar Y k 1 n b) {i x : Int32} (hin : vp_in i n) (hdg : decode cc pc = .ok (.bastore, 1))
    (kk : ∀ (τ : hh_S) (H1 : Heap) (locs1 : List Loc), τ = hh_sA σ k i (vp_nar .boolean x) → hh_H D cl Y cy ad H0 τ H1 locs1 → W p l e R s m args below meth c H1 locs1 cells slots Q (F0 m (pc + 1) ls rest)) : W p l e R s m args below meth c H locs cells slots Q (F0 m pc ls (.int x :: .int i :: .ref (ad k) :: rest)) := by
  refine va_zast X.1.1 X.1.2.1 X.2.1 h.1 (hh_D X.2.2 σ) h.2 k 1 (f := σ.2.2.1 k) (n := n) ((hh_at_arr ha).trans (by rw [hh_av1 ha])) rfl hin hdg (fun H1 locs1 hP _ hS => kk _ H1 locs1 rfl ⟨?_, hS⟩)
  rw [← hh_ws_set (σ := σ) (σ' := hh_sA σ k i (vp_nar .boolean x)) ha.1 (e := .inl (cy 1, n, .inl (upd (σ.2.2.1 k) i.toNatClampNeg (vp_nar .boolean x)))) ?_ (fun j hj => hh_cv_uA j hj)]
  · exact hP
  · unfold hh_cv
    rw [if_neg ha.2.1, hh_av1 ha]
    exact congrArg (fun z => Sum.inl (cy 1, n, Sum.inl z)) (if_pos rfl).symm
theorem hh_lst (X : hh_X p m c cc nL s args Ts own D cl Y cy ad) (h : hh_H D cl Y cy ad H0 σ H locs) {k n b : Nat} (ha : hh_ar Y k 2 n b) {i : Int32} {x : Int64} (hin : vp_in i n) (hdg : decode cc pc = .ok (.lastore, 1))
    (kk : ∀ (τ : hh_S) (H1 : Heap) (locs1 : List Loc), τ = hh_sB σ k i x → hh_H D cl Y cy ad H0 τ H1 locs1 → W p l e R s m args below meth c H1 locs1 cells slots Q (F0 m (pc + 1) ls rest)) : W p l e R s m args below meth c H locs cells slots Q (F0 m pc ls (.long x :: .int i :: .ref (ad k) :: rest)) := by
  refine va_last X.1.1 X.1.2.1 X.2.1 h.1 (hh_D X.2.2 σ) h.2 k 2 (f := σ.2.2.2 k) (n := n) ((hh_at_arr ha).trans (by rw [hh_av2 ha])) rfl hin hdg (fun H1 locs1 hP _ hS => kk _ H1 locs1 rfl ⟨?_, hS⟩)
  rw [← hh_ws_set (σ := σ) (σ' := hh_sB σ k i x) ha.1 (e := .inl (cy 2, n, .inr (.inl (vp_updL (σ.2.2.2 k) i.toNatClampNeg x)))) ?_ (fun j hj => hh_cv_uB j hj)]
  · exact hP
  · unfold hh_cv
    rw [if_neg ha.2.1, hh_av2 ha]
    exact congrArg (fun z => Sum.inl (cy 2, n, Sum.inr (Sum.inl z))) (if_pos rfl).symm
theorem hh_geti (X : hh_X p m c cc nL s args Ts own D cl Y cy ad) (h : hh_H D cl Y cy ad H0 σ H locs) (q : Nat) {o j k N index : Nat} {C ref : String} {T : u_T} (hf : hh_fd Y o j 0 k) (hq : 64 * o + j = q) (hin : ∀ w ∈ u_ws C T N, w ∈ Ts) (hc : cl[Y.2.1 o]? = some (C, T, N)) (hj : j < N) (hlink : Cond.fieldLink own index ref (T j).2.1 (T j).2.2.1 ∈ Ts) (hr : ref = (T j).1) (hdg : decode cc pc = .ok (.getfield index, 3))
    (kk : W p l e R s m args below meth c H locs cells slots Q (F0 m (pc + 3) ls (.int (hh_I σ q) :: rest))) : W p l e R s m args below meth c H locs cells slots Q (F0 m pc ls (.ref (ad o) :: rest)) := by
  subst hq
  exact va_get X.1.1 X.1.2.1 X.1.2.2.2.2 hin X.1.2.2.2.1 X.2.1 h.1 o (hh_at_obj hf) hc j hj (X.1.2.2.2.2 _ hlink) (fun _ q => by rw [hr]; exact q) ((hh_fs_at hf).trans (by rw [hh_fv0 hf])) hdg kk
theorem hh_getl (X : hh_X p m c cc nL s args Ts own D cl Y cy ad) (h : hh_H D cl Y cy ad H0 σ H locs) (q : Nat) {o j k N index : Nat} {C ref : String} {T : u_T} (hf : hh_fd Y o j 1 k) (hq : 64 * o + j = q) (hin : ∀ w ∈ u_ws C T N, w ∈ Ts) (hc : cl[Y.2.1 o]? = some (C, T, N)) (hj : j < N) (hlink : Cond.fieldLink own index ref (T j).2.1 (T j).2.2.1 ∈ Ts) (hr : ref = (T j).1) (hdg : decode cc pc = .ok (.getfield index, 3))
    (kk : W p l e R s m args below meth c H locs cells slots Q (F0 m (pc + 3) ls (.long (hh_L σ q) :: rest))) : W p l e R s m args below meth c H locs cells slots Q (F0 m pc ls (.ref (ad o) :: rest)) := by
  subst hq
  exact va_get X.1.1 X.1.2.1 X.1.2.2.2.2 hin X.1.2.2.2.1 X.2.1 h.1 o (hh_at_obj hf) hc j hj (X.1.2.2.2.2 _ hlink) (fun _ q => by rw [hr]; exact q) ((hh_fs_at hf).trans (by rw [hh_fv1 hf])) hdg kk
theorem hh_getr (X : hh_X p m c cc nL s args Ts own D cl Y cy ad) (h : hh_H D cl Y cy ad H0 σ H locs) {o j k N index : Nat} {C ref : String} {T : u_T} (hf : hh_fd Y o j 2 k) (hin : ∀ w ∈ u_ws C T N, w ∈ Ts) (hc : cl[Y.2.1 o]? = some (C, T, N)) (hj : j < N) (hlink : Cond.fieldLink own index ref (T j).2.1 (T j).2.2.1 ∈ Ts) (hr : ref = (T j).1) (hdg : decode cc pc = .ok (.getfield index, 3))
    (kk : W p l e R s m args below meth c H locs cells slots Q (F0 m (pc + 3) ls (.ref (ad k) :: rest))) : W p l e R s m args below meth c H locs cells slots Q (F0 m pc ls (.ref (ad o) :: rest)) :=
  va_get X.1.1 X.1.2.1 X.1.2.2.2.2 hin X.1.2.2.2.1 X.2.1 h.1 o (hh_at_obj hf) hc j hj (X.1.2.2.2.2 _ hlink) (fun _ q => by rw [hr]; exact q) ((hh_fs_at hf).trans (by rw [hh_fv2 hf])) hdg kk
theorem hh_puti (X : hh_X p m c cc nL s args Ts own D cl Y cy ad) (h : hh_H D cl Y cy ad H0 σ H locs) (q : Nat) {o j k N index : Nat} {C ref : String} {T : u_T} (hY : ∀ o : Nat, Y.2.2.1 o ≤ 64) (hf : hh_fd Y o j 0 k) (hq : 64 * o + j = q) (hin : ∀ w ∈ u_ws C T N, w ∈ Ts) (hc : cl[Y.2.1 o]? = some (C, T, N)) (ty0 : Nat → FieldType) (hty : ∀ k, k < N → parseFieldDescriptor (T k).2.2.1 = some (ty0 k)) (hnm : ∀ a, a < N → ∀ b, b < N → a ≠ b → (T a).2.1 ≠ (T b).2.1) (hj : j < N) (hlink : Cond.fieldLink own index ref (T j).2.1 (T j).2.2.1 ∈ Ts) (hr : ref = (T j).1) (hfin : (T j).2.2.2 = false) {x : Int32} (hn : narrow (ty0 j) (.int x) = .int x) (hfit : fits (ty0 j) (.int x) = true) (hdg : decode cc pc = .ok (.putfield index, 3))
    (kk : ∀ (τ : hh_S) (H1 : Heap) (locs1 : List Loc), τ = hh_uI σ q x → hh_H D cl Y cy ad H0 τ H1 locs1 → W p l e R s m args below meth c H1 locs1 cells slots Q (F0 m (pc + 3) ls rest)) : W p l e R s m args below meth c H locs cells slots Q (F0 m pc ls (.int x :: .ref (ad o) :: rest)) := by
  subst hq
  have hl : (hh_fs Y ad σ o).length = Y.2.2.1 o := by unfold hh_fs; rw [List.length_map, List.length_range]
  refine va_put X.1.1 X.1.2.1 X.1.2.2.2.2 hin ty0 hty hnm X.1.2.2.2.1 X.2.1 h.1 (hh_D X.2.2 σ) h.2 o (hh_at_obj hf) hc j hj (X.1.2.2.2.2 _ hlink) (fun _ q => by rw [hr]; exact q) hfin (hty j hj) hn hfit (by rw [hl]; exact hf.2.2.1) hdg (fun H1 locs1 hP _ hS => kk _ H1 locs1 rfl ⟨?_, hS⟩)
  rw [← hh_ws_set (σ := σ) (σ' := hh_uI σ (64 * o + j) x) hf.2.1 (e := .inr (Y.2.1 o, (hh_fs Y ad σ o).set j (.int x))) ?_ (fun i hi => hh_cv_uI hY (Nat.lt_of_lt_of_le hf.2.2.1 (hY o)) i hi)]
  · exact hP
  · unfold hh_cv
    rw [if_pos hf.1, hh_fs_setI hf]
theorem hh_putl (X : hh_X p m c cc nL s args Ts own D cl Y cy ad) (h : hh_H D cl Y cy ad H0 σ H locs) (q : Nat) {o j k N index : Nat} {C ref : String} {T : u_T} (hY : ∀ o : Nat, Y.2.2.1 o ≤ 64) (hf : hh_fd Y o j 1 k) (hq : 64 * o + j = q) (hin : ∀ w ∈ u_ws C T N, w ∈ Ts) (hc : cl[Y.2.1 o]? = some (C, T, N)) (ty0 : Nat → FieldType) (hty : ∀ k, k < N → parseFieldDescriptor (T k).2.2.1 = some (ty0 k)) (hnm : ∀ a, a < N → ∀ b, b < N → a ≠ b → (T a).2.1 ≠ (T b).2.1) (hj : j < N) (hlink : Cond.fieldLink own index ref (T j).2.1 (T j).2.2.1 ∈ Ts) (hr : ref = (T j).1) (hfin : (T j).2.2.2 = false) {x : Int64} (hn : narrow (ty0 j) (.long x) = .long x) (hfit : fits (ty0 j) (.long x) = true) (hdg : decode cc pc = .ok (.putfield index, 3))
    (kk : ∀ (τ : hh_S) (H1 : Heap) (locs1 : List Loc), τ = hh_uL σ q x → hh_H D cl Y cy ad H0 τ H1 locs1 → W p l e R s m args below meth c H1 locs1 cells slots Q (F0 m (pc + 3) ls rest)) : W p l e R s m args below meth c H locs cells slots Q (F0 m pc ls (.long x :: .ref (ad o) :: rest)) := by
  subst hq
  have hl : (hh_fs Y ad σ o).length = Y.2.2.1 o := by unfold hh_fs; rw [List.length_map, List.length_range]
  refine va_put X.1.1 X.1.2.1 X.1.2.2.2.2 hin ty0 hty hnm X.1.2.2.2.1 X.2.1 h.1 (hh_D X.2.2 σ) h.2 o (hh_at_obj hf) hc j hj (X.1.2.2.2.2 _ hlink) (fun _ q => by rw [hr]; exact q) hfin (hty j hj) hn hfit (by rw [hl]; exact hf.2.2.1) hdg (fun H1 locs1 hP _ hS => kk _ H1 locs1 rfl ⟨?_, hS⟩)
  rw [← hh_ws_set (σ := σ) (σ' := hh_uL σ (64 * o + j) x) hf.2.1 (e := .inr (Y.2.1 o, (hh_fs Y ad σ o).set j (.long x))) ?_ (fun i hi => hh_cv_uL hY (Nat.lt_of_lt_of_le hf.2.2.1 (hY o)) i hi)]
  · exact hP
  · unfold hh_cv
    rw [if_pos hf.1, hh_fs_setL hf]
/-- ends -/
theorem hh_iret {Qp : Int32 → hh_S → Prop} (X : hh_X p m c cc nL s args Ts own D cl Y cy ad) (h : hh_H D cl Y cy ad s.heap σ H locs) (hr : meth.sig.returnType = some .int) (hlocks : meth.locks = false) {v : Int32} (hq : Qp v σ) (hdg : decode cc pc = .ok (.ireturn, 1)) : W p l e R s m args below meth c H locs cells slots (MQ below (va_Qi Qp (hh_B D cl Y cy ad) (hh_A Y ad)) args s cells slots (hh_A Y ad)) (F0 m pc ls [.int v]) :=
  W.iret X.1.1 X.1.2.1 hr (fun _ ht hW => ⟨⟨v, σ, rfl, hq, by rw [ht]; exact h.1, va_K.moved hW.alike X.2.1⟩, h.2.F ht⟩) h.2.2.2 hdg hlocks
theorem hh_zret {Qp : Int32 → hh_S → Prop} (X : hh_X p m c cc nL s args Ts own D cl Y cy ad) (h : hh_H D cl Y cy ad s.heap σ H locs) (hr : meth.sig.returnType = some .boolean) (hlocks : meth.locks = false) {v : Int32} (hn : narrow .boolean (.int v) = .int v) (hq : Qp v σ) (hdg : decode cc pc = .ok (.ireturn, 1)) : W p l e R s m args below meth c H locs cells slots (MQ below (va_Qi Qp (hh_B D cl Y cy ad) (hh_A Y ad)) args s cells slots (hh_A Y ad)) (F0 m pc ls [.int v]) :=
  W.zret X.1.1 X.1.2.1 hr hn (fun _ ht hW => ⟨⟨v, σ, rfl, hq, by rw [ht]; exact h.1, va_K.moved hW.alike X.2.1⟩, h.2.F ht⟩) h.2.2.2 hdg hlocks
theorem hh_lret {Qp : Int64 → hh_S → Prop} (X : hh_X p m c cc nL s args Ts own D cl Y cy ad) (h : hh_H D cl Y cy ad s.heap σ H locs) (hr : meth.sig.returnType = some .long) (hlocks : meth.locks = false) {v : Int64} (hq : Qp v σ) (hdg : decode cc pc = .ok (.lreturn, 1)) : W p l e R s m args below meth c H locs cells slots (MQ below (va_Ql Qp (hh_B D cl Y cy ad) (hh_A Y ad)) args s cells slots (hh_A Y ad)) (F0 m pc ls [.long v]) :=
  W.lret X.1.1 X.1.2.1 hr (fun _ ht hW => ⟨⟨v, σ, rfl, hq, by rw [ht]; exact h.1, va_K.moved hW.alike X.2.1⟩, h.2.F ht⟩) h.2.2.2 hdg hlocks
theorem hh_vret {Qp : hh_S → Prop} (X : hh_X p m c cc nL s args Ts own D cl Y cy ad) (h : hh_H D cl Y cy ad s.heap σ H locs) (hr : meth.sig.returnType = none) (hlocks : meth.locks = false) (hq : Qp σ) (hdg : decode cc pc = .ok (.return_, 1)) : W p l e R s m args below meth c H locs cells slots (MQ below (va_Qv Qp (hh_B D cl Y cy ad) (hh_A Y ad)) args s cells slots (hh_A Y ad)) (F0 m pc ls []) :=
  W.vret X.1.1 X.1.2.1 hr (fun _ ht hW => ⟨⟨σ, rfl, hq, by rw [ht]; exact h.1, va_K.moved hW.alike X.2.1⟩, h.2.F ht⟩) h.2.2.2 hdg hlocks
/-- calls -/
theorem hh_blind {av : List Value} : FrameBlind (va_Pc av (hh_B D cl Y cy ad σ)) := fun a U g mk q => ⟨q.1, q.2.1, va_K.moved (u := U) (U := U.calling g mk a) (Vm.Alike.refl U.vm) q.2.2⟩
theorem hh_preS (X : hh_X p m c cc nL s args Ts own D cl Y cy ad) (h : hh_H D cl Y cy ad H0 σ H locs) (As : List Value) : PreS s H (va_Pc As (hh_B D cl Y cy ad σ)) As := ⟨hh_blind, fun _ hU hW => ⟨rfl, by rw [hU]; exact h.1, va_K.moved hW.alike X.2.1⟩⟩
theorem hh_preV (X : hh_X p m c cc nL s args Ts own D cl Y cy ad) (h : hh_H D cl Y cy ad H0 σ H locs) {o j t k : Nat} (hf : hh_fd Y o j t k) {q : vw_C} (hc : cl[Y.2.1 o]? = some q) (As : List Value) : PreV s H q.1 (ad o) (va_Pc (.ref (ad o) :: As) (hh_B D cl Y cy ad σ)) As := ⟨hh_blind, va_recv X.2.1 h.1 hc (hh_at_obj hf), fun _ hU hW => ⟨rfl, by rw [hU]; exact h.1, va_K.moved hW.alike X.2.1⟩⟩
variable {y : MethodName} {bytes : ByteArray} {maxL n index : Nat} {ret : Option FieldType} {ws : List Cond} {rm : Room} {As : List Value}
theorem hh_kI {Qp : Int32 → hh_S → Prop} {st0 : List Value} {a : Array Value} (h : hh_H D cl Y cy ad H0 σ H locs) (hr : va_Run p l e R s m args below meth c H locs cells slots 0 0 (F0 m pc ls st0) rest (va_Qi Qp (hh_B D cl Y cy ad) (hh_A Y ad) a) (hh_A Y ad))
    (kk : ∀ (r : Int32) (u : hh_S) (H1 : Heap) (locs1 : List Loc), Qp r u → hh_H D cl Y cy ad H0 u H1 locs1 → W p l e R s m args below meth c H1 locs1 cells slots Q (F0 m (pc + 3) ls (.int r :: rest))) : W p l e R s m args below meth c H locs cells slots Q (F0 m pc ls st0) :=
  va_calli hr h.2 (fun _ _ q => q) (fun _ q => q) (fun r u t H1 locs1 ht _ hp hb _ _ hS => kk r u H1 locs1 hp ⟨by rw [← ht]; exact hb.1, hS⟩)
theorem hh_kL {Qp : Int64 → hh_S → Prop} {st0 : List Value} {a : Array Value} (h : hh_H D cl Y cy ad H0 σ H locs) (hr : va_Run p l e R s m args below meth c H locs cells slots 0 0 (F0 m pc ls st0) rest (va_Ql Qp (hh_B D cl Y cy ad) (hh_A Y ad) a) (hh_A Y ad))
    (kk : ∀ (r : Int64) (u : hh_S) (H1 : Heap) (locs1 : List Loc), Qp r u → hh_H D cl Y cy ad H0 u H1 locs1 → W p l e R s m args below meth c H1 locs1 cells slots Q (F0 m (pc + 3) ls (.long r :: rest))) : W p l e R s m args below meth c H locs cells slots Q (F0 m pc ls st0) :=
  va_calll hr h.2 (fun _ _ q => q) (fun _ q => q) (fun r u t H1 locs1 ht _ hp hb _ _ hS => kk r u H1 locs1 hp ⟨by rw [← ht]; exact hb.1, hS⟩)
theorem hh_kV {Qp : hh_S → Prop} {st0 : List Value} {a : Array Value} (h : hh_H D cl Y cy ad H0 σ H locs) (hr : va_Run p l e R s m args below meth c H locs cells slots 0 0 (F0 m pc ls st0) rest (va_Qv Qp (hh_B D cl Y cy ad) (hh_A Y ad) a) (hh_A Y ad))
    (kk : ∀ (u : hh_S) (H1 : Heap) (locs1 : List Loc), Qp u → hh_H D cl Y cy ad H0 u H1 locs1 → W p l e R s m args below meth c H1 locs1 cells slots Q (F0 m (pc + 3) ls rest)) : W p l e R s m args below meth c H locs cells slots Q (F0 m pc ls st0) :=
  va_callv hr h.2 (fun _ _ q => q) (fun _ q => q) (fun u t H1 locs1 ht _ hp hb _ _ hS => kk u H1 locs1 hp ⟨by rw [← ht]; exact hb.1, hS⟩)
/-- switches -/
theorem hh_tabIn (X : hh_X p m c cc nL s args Ts own D cl Y cy ad) {dflt lo hi : Int} {offs : Array Int} {len : Nat} {x : Int32} {tgt : Nat} {off : Int} (z : Int) (hdg : decode cc pc = .ok (.tableswitch dflt lo hi offs, len)) (hz : x.toInt = z) (h1 : ¬ z < lo) (h2 : ¬ hi < z) (ho : offs[(z - lo).toNat]? = some off) (ht : (pc : Int) + off = (tgt : Int))
    (kk : W p l e R s m args below meth c H locs cells slots Q (F0 m tgt ls rest)) : W p l e R s m args below meth c H locs cells slots Q (F0 m pc ls (.int x :: rest)) := by
  subst hz
  exact lv_tableIn X.1.1 X.1.2.1 hdg h1 h2 ho ht kk
theorem hh_cpy (X : hh_X p m c cc nL s args Ts own D cl Y cy ad) (h : hh_H D cl Y cy ad H0 σ H locs) {k0 k1 n0 n1 b0 b1 : Nat} (h0 : hh_ar Y k0 0 n0 b0) (h1 : hh_ar Y k1 0 n1 b1) (hsz : ls.size = nL) {index : Nat} (hlink : (Cond.methodLink own index arraycopyName).before args s = true) (hnat : (Cond.native arraycopyName).before args s = true) (hstat : (Cond.static arraycopyName).before args s = true) (hini : (Cond.initialized "java/lang/System").before args s = true) {sp dp n : Int32} (g1 : ¬ sp < 0) (g2 : ¬ dp < 0) (g3 : ¬ n < 0) (g4 : sp.toNatClampNeg + n.toNatClampNeg ≤ n0) (g5 : dp.toNatClampNeg + n.toNatClampNeg ≤ n1) (hframes : 1 ≤ R.frames) (hlocals : (rest.map fun v => v.category).sum + (nativeFrameWords "java/lang/System" "arraycopy" 5 + 11) ≤ R.locals) (hdg : decode cc pc = .ok (.invokestatic index, 3))
    (kk : ∀ (τ : hh_S) (H1 : Heap) (locs1 : List Loc), τ = hh_uA σ k1 (va_cpy (σ.2.2.1 k0) (σ.2.2.1 k1) sp.toNatClampNeg dp.toNatClampNeg n.toNatClampNeg) → hh_H D cl Y cy ad H0 τ H1 locs1 → W p l e R s m args below meth c H1 locs1 cells slots Q (F0 m (pc + 3) ls rest)) : W p l e R s m args below meth c H locs cells slots Q (F0 m pc ls (.int n :: .int dp :: .ref (ad k1) :: .int sp :: .ref (ad k0) :: rest)) := by
  refine va_copyi X.1.1 X.1.2.1 (X.1.2.2.1.trans hsz.symm) X.1.2.2.2.1 hlink hnat hstat hini X.2.1 h.1 (hh_D X.2.2 σ) h.2 k0 k1 0 0 (f := σ.2.2.1 k0) (g := σ.2.2.1 k1) (n0 := n0) (n1 := n1) (ty := .int) ((hh_at_arr h0).trans (by rw [hh_av0 h0])) ((hh_at_arr h1).trans (by rw [hh_av0 h1])) rfl rfl rfl g1 g2 g3 g4 g5 (fun _ _ => rfl) hframes hlocals hdg (fun H1 locs1 hP _ hS => kk _ H1 locs1 rfl ⟨?_, hS⟩)
  rw [← hh_ws_set (σ := σ) (σ' := hh_uA σ k1 (va_cpy (σ.2.2.1 k0) (σ.2.2.1 k1) sp.toNatClampNeg dp.toNatClampNeg n.toNatClampNeg)) h1.1 (e := .inl (cy 0, n1, .inl (va_cpy (σ.2.2.1 k0) (σ.2.2.1 k1) sp.toNatClampNeg dp.toNatClampNeg n.toNatClampNeg))) ?_ (fun j hj => hh_cv_uA j hj)]
  · exact hP
  · unfold hh_cv
    rw [if_neg h1.2.1, hh_av0 h1]
    exact congrArg (fun z => Sum.inl (cy 0, n1, Sum.inl z)) (if_pos rfl).symm
theorem hh_entry {vs : List Value} {nn : Nat} (h : (lg_sl vs).length ≤ nn) (kk : ∀ ls : Array Slot, lv_has ls nn (lv_args 0 vs) → W p l e R s m args below meth c H locs cells slots Q (F0 m 0 ls [])) : W p l e R s m args below meth c H locs cells slots Q (entryFrame m vs.toArray nn) := by
  rw [lg_entry_eq]
  exact kk _ (lv_entry vs h)
theorem hh_tabOut (X : hh_X p m c cc nL s args Ts own D cl Y cy ad) {dflt lo hi : Int} {offs : Array Int} {len : Nat} {x : Int32} {tgt : Nat} (hdg : decode cc pc = .ok (.tableswitch dflt lo hi offs, len)) (h : x.toInt < lo ∨ hi < x.toInt) (ht : (pc : Int) + dflt = (tgt : Int))
    (kk : W p l e R s m args below meth c H locs cells slots Q (F0 m tgt ls rest)) : W p l e R s m args below meth c H locs cells slots Q (F0 m pc ls (.int x :: rest)) := lv_tableOut X.1.1 X.1.2.1 hdg h ht kk
end HHW
theorem hh_out3 {x : Int} (h0 : ¬ x = 0) (h1 : ¬ x = 1) (h2 : ¬ x = 2) (h3 : ¬ x = 3) : x < 0 ∨ 3 < x := by omega
theorem hh_out5 {x : Int} (h0 : ¬ x = 0) (h1 : ¬ x = 1) (h2 : ¬ x = 2) (h3 : ¬ x = 3) (h4 : ¬ x = 4) (h5 : ¬ x = 5) : x < 0 ∨ 5 < x := by omega
theorem hh_out7 {x : Int} (h0 : ¬ x = 0) (h1 : ¬ x = 1) (h2 : ¬ x = 2) (h3 : ¬ x = 3) (h4 : ¬ x = 4) (h5 : ¬ x = 5) (h6 : ¬ x = 6) (h7 : ¬ x = 7) : x < 0 ∨ 7 < x := by omega
theorem hh_out9 {x : Int} (h0 : ¬ x = 0) (h1 : ¬ x = 1) (h2 : ¬ x = 2) (h3 : ¬ x = 3) (h4 : ¬ x = 4) (h5 : ¬ x = 5) (h6 : ¬ x = 6) (h7 : ¬ x = 7) (h8 : ¬ x = 8) (h9 : ¬ x = 9) : x < 0 ∨ 9 < x := by omega
theorem hh_out31 {x : Int} (h0 : ¬ x = 0) (h1 : ¬ x = 1) (h2 : ¬ x = 2) (h3 : ¬ x = 3) (h4 : ¬ x = 4) (h5 : ¬ x = 5) (h6 : ¬ x = 6) (h7 : ¬ x = 7) (h8 : ¬ x = 8) (h9 : ¬ x = 9) (h10 : ¬ x = 10) (h11 : ¬ x = 11) (h12 : ¬ x = 12) (h13 : ¬ x = 13) (h14 : ¬ x = 14) (h15 : ¬ x = 15) (h16 : ¬ x = 16) (h17 : ¬ x = 17) (h18 : ¬ x = 18) (h19 : ¬ x = 19) (h20 : ¬ x = 20) (h21 : ¬ x = 21) (h22 : ¬ x = 22) (h23 : ¬ x = 23) (h24 : ¬ x = 24) (h25 : ¬ x = 25) (h26 : ¬ x = 26) (h27 : ¬ x = 27) (h28 : ¬ x = 28) (h29 : ¬ x = 29) (h30 : ¬ x = 30) (h31 : ¬ x = 31) : x < 0 ∨ 31 < x := by omega
/-- loops: the body F by its continuation, so many turns -/
def hh_lp0 (F : (hh_S → Prop) → hh_S → Prop) : Nat → hh_S → Prop
  | 0, _ => False
  | n + 1, σ => F (hh_lp0 F n) σ
def hh_lp1 {α : Type} (F : (α → hh_S → Prop) → α → hh_S → Prop) : Nat → α → hh_S → Prop
  | 0, _, _ => False
  | n + 1, a, σ => F (hh_lp1 F n) a σ
def hh_lp2 {α β : Type} (F : (α → β → hh_S → Prop) → α → β → hh_S → Prop) : Nat → α → β → hh_S → Prop
  | 0, _, _, _ => False
  | n + 1, a, b, σ => F (hh_lp2 F n) a b σ
def hh_lp3 {α β γ : Type} (F : (α → β → γ → hh_S → Prop) → α → β → γ → hh_S → Prop) : Nat → α → β → γ → hh_S → Prop
  | 0, _, _, _, _ => False
  | n + 1, a, b, c, σ => F (hh_lp3 F n) a b c σ
def hh_lp4 {α β γ δ : Type} (F : (α → β → γ → δ → hh_S → Prop) → α → β → γ → δ → hh_S → Prop) : Nat → α → β → γ → δ → hh_S → Prop
  | 0, _, _, _, _, _ => False
  | n + 1, a, b, c, d, σ => F (hh_lp4 F n) a b c d σ
def hh_lp5 {α β γ δ ε : Type} (F : (α → β → γ → δ → ε → hh_S → Prop) → α → β → γ → δ → ε → hh_S → Prop) : Nat → α → β → γ → δ → ε → hh_S → Prop
  | 0, _, _, _, _, _, _ => False
  | n + 1, a, b, c, d, e, σ => F (hh_lp5 F n) a b c d e σ
def hh_lp6 {α β γ δ ε ζ : Type} (F : (α → β → γ → δ → ε → ζ → hh_S → Prop) → α → β → γ → δ → ε → ζ → hh_S → Prop) : Nat → α → β → γ → δ → ε → ζ → hh_S → Prop
  | 0, _, _, _, _, _, _, _ => False
  | n + 1, a, b, c, d, e, f, σ => F (hh_lp6 F n) a b c d e f σ
def hh_lp7 {α β γ δ ε ζ η : Type} (F : (α → β → γ → δ → ε → ζ → η → hh_S → Prop) → α → β → γ → δ → ε → ζ → η → hh_S → Prop) : Nat → α → β → γ → δ → ε → ζ → η → hh_S → Prop
  | 0, _, _, _, _, _, _, _, _ => False
  | n + 1, a, b, c, d, e, f, g, σ => F (hh_lp7 F n) a b c d e f g σ
theorem hh_lp0_i {F : (hh_S → Prop) → hh_S → Prop} (I : hh_S → Prop) (μ : hh_S → Nat) (hs : ∀ K σ, I σ → (∀ σ', I σ' → μ σ' < μ σ → K σ') → F K σ) {σ : hh_S} (h : I σ) : ∃ n, hh_lp0 F n σ := by
  have key : ∀ n σ, I σ → μ σ < n → hh_lp0 F n σ := by
    intro n
    induction n with
    | zero => intro σ _ h; exact absurd h (Nat.not_lt_zero _)
    | succ n ih => intro σ hI hm; exact hs _ σ hI (fun σ' hI' hm' => ih σ' hI' (by omega))
  exact ⟨_, key _ σ h (Nat.lt_succ_self _)⟩
theorem hh_lp1_i {α : Type} {F : (α → hh_S → Prop) → α → hh_S → Prop} (I : α → hh_S → Prop) (μ : α → hh_S → Nat) (hs : ∀ K a σ, I a σ → (∀ a' σ', I a' σ' → μ a' σ' < μ a σ → K a' σ') → F K a σ) {a : α} {σ : hh_S} (h : I a σ) : ∃ n, hh_lp1 F n a σ := by
  have key : ∀ n a σ, I a σ → μ a σ < n → hh_lp1 F n a σ := by
    intro n
    induction n with
    | zero => intro a σ _ h; exact absurd h (Nat.not_lt_zero _)
    | succ n ih => intro a σ hI hm; exact hs _ a σ hI (fun a' σ' hI' hm' => ih a' σ' hI' (by omega))
  exact ⟨_, key _ a σ h (Nat.lt_succ_self _)⟩
theorem hh_lp2_i {α β : Type} {F : (α → β → hh_S → Prop) → α → β → hh_S → Prop} (I : α → β → hh_S → Prop) (μ : α → β → hh_S → Nat) (hs : ∀ K a b σ, I a b σ → (∀ a' b' σ', I a' b' σ' → μ a' b' σ' < μ a b σ → K a' b' σ') → F K a b σ) {a : α} {b : β} {σ : hh_S} (h : I a b σ) : ∃ n, hh_lp2 F n a b σ := by
  have key : ∀ n a b σ, I a b σ → μ a b σ < n → hh_lp2 F n a b σ := by
    intro n
    induction n with
    | zero => intro a b σ _ h; exact absurd h (Nat.not_lt_zero _)
    | succ n ih => intro a b σ hI hm; exact hs _ a b σ hI (fun a' b' σ' hI' hm' => ih a' b' σ' hI' (by omega))
  exact ⟨_, key _ a b σ h (Nat.lt_succ_self _)⟩
theorem hh_lp3_i {α β γ : Type} {F : (α → β → γ → hh_S → Prop) → α → β → γ → hh_S → Prop} (I : α → β → γ → hh_S → Prop) (μ : α → β → γ → hh_S → Nat) (hs : ∀ K a b c σ, I a b c σ → (∀ a' b' c' σ', I a' b' c' σ' → μ a' b' c' σ' < μ a b c σ → K a' b' c' σ') → F K a b c σ) {a : α} {b : β} {c : γ} {σ : hh_S} (h : I a b c σ) : ∃ n, hh_lp3 F n a b c σ := by
  have key : ∀ n a b c σ, I a b c σ → μ a b c σ < n → hh_lp3 F n a b c σ := by
    intro n
    induction n with
    | zero => intro a b c σ _ h; exact absurd h (Nat.not_lt_zero _)
    | succ n ih => intro a b c σ hI hm; exact hs _ a b c σ hI (fun a' b' c' σ' hI' hm' => ih a' b' c' σ' hI' (by omega))
  exact ⟨_, key _ a b c σ h (Nat.lt_succ_self _)⟩
theorem hh_lp4_i {α β γ δ : Type} {F : (α → β → γ → δ → hh_S → Prop) → α → β → γ → δ → hh_S → Prop} (I : α → β → γ → δ → hh_S → Prop) (μ : α → β → γ → δ → hh_S → Nat) (hs : ∀ K a b c d σ, I a b c d σ → (∀ a' b' c' d' σ', I a' b' c' d' σ' → μ a' b' c' d' σ' < μ a b c d σ → K a' b' c' d' σ') → F K a b c d σ) {a : α} {b : β} {c : γ} {d : δ} {σ : hh_S} (h : I a b c d σ) : ∃ n, hh_lp4 F n a b c d σ := by
  have key : ∀ n a b c d σ, I a b c d σ → μ a b c d σ < n → hh_lp4 F n a b c d σ := by
    intro n
    induction n with
    | zero => intro a b c d σ _ h; exact absurd h (Nat.not_lt_zero _)
    | succ n ih => intro a b c d σ hI hm; exact hs _ a b c d σ hI (fun a' b' c' d' σ' hI' hm' => ih a' b' c' d' σ' hI' (by omega))
  exact ⟨_, key _ a b c d σ h (Nat.lt_succ_self _)⟩
theorem hh_lp5_i {α β γ δ ε : Type} {F : (α → β → γ → δ → ε → hh_S → Prop) → α → β → γ → δ → ε → hh_S → Prop} (I : α → β → γ → δ → ε → hh_S → Prop) (μ : α → β → γ → δ → ε → hh_S → Nat) (hs : ∀ K a b c d e σ, I a b c d e σ → (∀ a' b' c' d' e' σ', I a' b' c' d' e' σ' → μ a' b' c' d' e' σ' < μ a b c d e σ → K a' b' c' d' e' σ') → F K a b c d e σ) {a : α} {b : β} {c : γ} {d : δ} {e : ε} {σ : hh_S} (h : I a b c d e σ) : ∃ n, hh_lp5 F n a b c d e σ := by
  have key : ∀ n a b c d e σ, I a b c d e σ → μ a b c d e σ < n → hh_lp5 F n a b c d e σ := by
    intro n
    induction n with
    | zero => intro a b c d e σ _ h; exact absurd h (Nat.not_lt_zero _)
    | succ n ih => intro a b c d e σ hI hm; exact hs _ a b c d e σ hI (fun a' b' c' d' e' σ' hI' hm' => ih a' b' c' d' e' σ' hI' (by omega))
  exact ⟨_, key _ a b c d e σ h (Nat.lt_succ_self _)⟩
