/-! ===== the law's world: the class's cells beside the model's ===== -/
def lk_F (D : va_G) (cy : Nat → ClassId) (adc adm : Nat → Nat) (s : State) : Prop := hh_J hc_Y adc ∧ hh_J hm_Y adm ∧ va_K D hh_cl (hh_ty cy) s ∧ (∀ q, hh_A hc_Y adc q → s.heap.size ≤ q) ∧ (∀ q, hh_A hm_Y adm q → s.heap.size ≤ q) ∧ (∀ q, hh_A hc_Y adc q → ¬ hh_A hm_Y adm q) ∧ hz_ZA (fun q => s.heap.size ≤ q) s s.heap
def lk_T (D : va_G) (cy : Nat → ClassId) (adc adm : Nat → Nat) (s : State) (c m : hh_S) (H : Heap) (locs : List Loc) : Prop := va_P D hh_cl (hh_ws hc_Y cy adc c) H ∧ va_P D hh_cl (hh_ws hm_Y cy adm m) H ∧ va_S (fun q => s.heap.size ≤ q) s.heap H locs
theorem lk_in {Y : hh_Y} {cy : Nat → ClassId} {ad : Nat → Nat} {σ : hh_S} {k : Nat} {x : Nat × va_E} (h : (hh_ws Y cy ad σ)[k]? = some x) : hh_A Y ad x.1 := by
  by_cases h1 : k < Y.1.2
  · rw [hh_ws_at h1] at h
    cases h
    exact ⟨k, h1, rfl⟩
  · rw [hh_ws_none h1] at h
    cases h
section LK
variable {p : Program} {l : Launch} {e : Env} {R : Room} {s : State} {m : MethodId} {args : Array Value} {below : List Frame} {meth : Method} {c : Code} {H : Heap} {locs : List Loc} {cells slots : Nat} {Q : State → Prop}
variable {pc : Nat} {ls : Array Slot} {rest : List Value} {D : va_G} {cy : Nat → ClassId} {adc adm : Nat → Nat} {σc σm : hh_S} {st0 : List Value} {a : Array Value}
theorem lk_cI {Qp : Int32 → hh_S → Prop} (F : lk_F D cy adc adm s) (h : lk_T D cy adc adm s σc σm H locs) (hr : va_Run p l e R s m args below meth c H locs cells slots 0 0 (F0 m pc ls st0) rest (va_Qi Qp (hh_B D hh_cl hc_Y cy adc) (hh_A hc_Y adc) a) (hh_A hc_Y adc))
    (kk : ∀ (r : Int32) (u : hh_S) (H1 : Heap) (locs1 : List Loc), Qp r u → lk_T D cy adc adm s u σm H1 locs1 → W p l e R s m args below meth c H1 locs1 cells slots Q (F0 m (pc + 3) ls (.int r :: rest))) : W p l e R s m args below meth c H locs cells slots Q (F0 m pc ls st0) :=
  va_calli hr h.2.2 (fun q _ w => F.2.2.2.1 q w) (fun q w => F.2.2.2.1 q w) (fun r u t H1 locs1 ht _ hp hb _ hk hS => kk r u H1 locs1 hp ⟨by rw [← ht]; exact hb.1, fun k x hx => (h.2.1 k x hx).kept (hk x.1 (h.2.1 k x hx).lt (fun w => F.2.2.2.2.2.1 _ w (lk_in hx))), hS⟩)
theorem lk_cL {Qp : Int64 → hh_S → Prop} (F : lk_F D cy adc adm s) (h : lk_T D cy adc adm s σc σm H locs) (hr : va_Run p l e R s m args below meth c H locs cells slots 0 0 (F0 m pc ls st0) rest (va_Ql Qp (hh_B D hh_cl hc_Y cy adc) (hh_A hc_Y adc) a) (hh_A hc_Y adc))
    (kk : ∀ (r : Int64) (u : hh_S) (H1 : Heap) (locs1 : List Loc), Qp r u → lk_T D cy adc adm s u σm H1 locs1 → W p l e R s m args below meth c H1 locs1 cells slots Q (F0 m (pc + 3) ls (.long r :: rest))) : W p l e R s m args below meth c H locs cells slots Q (F0 m pc ls st0) :=
  va_calll hr h.2.2 (fun q _ w => F.2.2.2.1 q w) (fun q w => F.2.2.2.1 q w) (fun r u t H1 locs1 ht _ hp hb _ hk hS => kk r u H1 locs1 hp ⟨by rw [← ht]; exact hb.1, fun k x hx => (h.2.1 k x hx).kept (hk x.1 (h.2.1 k x hx).lt (fun w => F.2.2.2.2.2.1 _ w (lk_in hx))), hS⟩)
theorem lk_mI {Qp : Int32 → hh_S → Prop} (F : lk_F D cy adc adm s) (h : lk_T D cy adc adm s σc σm H locs) (hr : va_Run p l e R s m args below meth c H locs cells slots 0 0 (F0 m pc ls st0) rest (va_Qi Qp (hh_B D hh_cl hm_Y cy adm) (hh_A hm_Y adm) a) (hh_A hm_Y adm))
    (kk : ∀ (r : Int32) (u : hh_S) (H1 : Heap) (locs1 : List Loc), Qp r u → lk_T D cy adc adm s σc u H1 locs1 → W p l e R s m args below meth c H1 locs1 cells slots Q (F0 m (pc + 3) ls (.int r :: rest))) : W p l e R s m args below meth c H locs cells slots Q (F0 m pc ls st0) :=
  va_calli hr h.2.2 (fun q _ w => F.2.2.2.2.1 q w) (fun q w => F.2.2.2.2.1 q w) (fun r u t H1 locs1 ht _ hp hb _ hk hS => kk r u H1 locs1 hp ⟨fun k x hx => (h.1 k x hx).kept (hk x.1 (h.1 k x hx).lt (fun w => F.2.2.2.2.2.1 _ (lk_in hx) w)), by rw [← ht]; exact hb.1, hS⟩)
theorem lk_mL {Qp : Int64 → hh_S → Prop} (F : lk_F D cy adc adm s) (h : lk_T D cy adc adm s σc σm H locs) (hr : va_Run p l e R s m args below meth c H locs cells slots 0 0 (F0 m pc ls st0) rest (va_Ql Qp (hh_B D hh_cl hm_Y cy adm) (hh_A hm_Y adm) a) (hh_A hm_Y adm))
    (kk : ∀ (r : Int64) (u : hh_S) (H1 : Heap) (locs1 : List Loc), Qp r u → lk_T D cy adc adm s σc u H1 locs1 → W p l e R s m args below meth c H1 locs1 cells slots Q (F0 m (pc + 3) ls (.long r :: rest))) : W p l e R s m args below meth c H locs cells slots Q (F0 m pc ls st0) :=
  va_calll hr h.2.2 (fun q _ w => F.2.2.2.2.1 q w) (fun q w => F.2.2.2.2.1 q w) (fun r u t H1 locs1 ht _ hp hb _ hk hS => kk r u H1 locs1 hp ⟨fun k x hx => (h.1 k x hx).kept (hk x.1 (h.1 k x hx).lt (fun w => F.2.2.2.2.2.1 _ (lk_in hx) w)), by rw [← ht]; exact hb.1, hS⟩)
theorem lk_pc (F : lk_F D cy adc adm s) (h : lk_T D cy adc adm s σc σm H locs) (As : List Value) : PreV s H RX8 (adc 0) (va_Pc (.ref (adc 0) :: As) (hh_B D hh_cl hc_Y cy adc σc)) As := ⟨hh_blind, va_recv F.2.2.1 h.1 kc_0 (hh_at_obj fc_0_9), fun _ hU hW => ⟨rfl, by rw [hU]; exact h.1, va_K.moved hW.alike F.2.2.1⟩⟩
theorem lk_ps (F : lk_F D cy adc adm s) (h : lk_T D cy adc adm s σc σm H locs) (As : List Value) : PreV s H RX8 (adc 0) (va_Pc (.ref (adc 0) :: As) (fun U => hh_B D hh_cl hc_Y cy adc σc U ∧ hz_Z adc U)) As := by
  refine ⟨hz_blind, va_recv F.2.2.1 h.1 kc_0 (hh_at_obj fc_0_9), fun U hU hW => ⟨rfl, ⟨by rw [hU]; exact h.1, va_K.moved hW.alike F.2.2.1⟩, ?_⟩⟩
  unfold hz_Z
  rw [hU]
  exact ((hz_ZA.kept F.2.2.2.2.2.2 h.2.2.2.1).narrow F.2.2.2.1).moved hW.alike
theorem lk_pm (F : lk_F D cy adc adm s) (h : lk_T D cy adc adm s σc σm H locs) (As : List Value) : PreV s H RX9 (adm 0) (va_Pc (.ref (adm 0) :: As) (hh_B D hh_cl hm_Y cy adm σm)) As := ⟨hh_blind, va_recv F.2.2.1 h.2.1 km_0 (hh_at_obj fm_0_0), fun _ hU hW => ⟨rfl, by rw [hU]; exact h.2.1, va_K.moved hW.alike F.2.2.1⟩⟩
end LK
theorem lk_ix {k j L : Nat} (hj : j < 5) (hk : k + 5 ≤ L) (hL : L ≤ 2560) : vp_in (nI k + nI j) L := by
  rw [nI_add]
  exact vp_in_nI (by omega) (by omega)
theorem lk_cmp {k L : Nat} (hL : L ≤ 2560) (hk : k ≤ 3000) : Int32.ofNat L - 5 < nI k ↔ ¬ k + 5 ≤ L := by
  show nI L - 5 < nI k ↔ _
  have h5 : (5 : Int32).toInt = 5 := by decide
  have e : (nI L - 5).toInt = (L : Int) - 5 := by
    rw [fb_subI (by rw [nI_toInt (by omega), h5]; omega) (by rw [nI_toInt (by omega), h5]; omega), nI_toInt (by omega), h5]
  rw [fa_lt, e, nI_toInt (by omega)]
  omega
/-- what stands in the law's body -/
def lk_B (p : Program) (s : State) (m : MethodId) (meth : Method) (c : Code) (b L : Nat) (xs : Nat → Int32) : Prop :=
  p.tables.exec = Jvm.exec ∧ c.code = cL_law ∧ c.maxLocals = 4 ∧ s.vm.findClass RL = some m.cls ∧ (∀ w ∈ wsL_law, w.before #[Value.ref b] s = true) ∧ va_X b L xs s s.heap ∧ b < s.heap.size ∧ L ≤ 2560
