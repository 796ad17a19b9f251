set_option maxHeartbeats 4000000 in
/-- THE LAW'S LOOP: at its head, with k ints read, class and model stand together -/
theorem law_loop {p : Program} {l : Launch} {e : Env} {s : State} {m : MethodId} {below : List Frame} {meth : Method} {c : Code} {D : va_G} {cy : Nat → ClassId} {adc adm : Nat → Nat} {b L : Nat} {xs : Nat → Int32} (B : lk_B p s m meth c b L xs) (F : lk_F D cy adc adm s) (hr : meth.sig.returnType = ret) (hlocks : meth.locks = false) : ∀ (n k : Nat) (σc σm : hh_S) (H : Heap) (locs : List Loc) (ls : Array Slot), L < k + 5 * n → k ≤ 2565 → lk_T D cy adc adm s σc σm H locs → RR_s σc σm → lv_has ls 4 [(0, .ref b), (1, .ref (adc 0)), (2, .ref (adm 0)), (3, .int (nI k))] → W p l e room_1 s m #[Value.ref b] below meth c H locs 151 3851 (lw_Z below #[Value.ref b] s) (F0 m 18 ls []) := by
  have hx := B.1
  have hb := B.2.1
  have hX := B.2.2.2.2.2.1
  have hbl := B.2.2.2.2.2.2.1
  have hL := B.2.2.2.2.2.2.2
  have hbA : ¬ (fun q : Nat => s.heap.size ≤ q) b := Nat.not_le.mpr hbl
  intro n
  induction n with
  | zero =>
    intro k σc σm H locs ls h1 h2 h R hl
    refine lv_iload_n hx hb dL_law_18 rfl (lv_at hl 3 rfl) ?_
    refine lv_aload_n hx hb dL_law_19 rfl (lv_at hl 0 rfl) ?_
    refine va_slen hx hb hX hbl hbA h.2.2 dL_law_20 ?_
    refine lv_iconst (v := (5 : Int32)) hx hb dL_law_21 (by decide) ?_
    refine lv_isub hx hb dL_law_22 ?_
    refine lv_icmp_gt (tgt := 1117) hx hb dL_law_23 (by decide) (fun w => ?_) (fun w => absurd ((lk_cmp hL (by omega)).mpr (by omega)) w)
    refine lv_iconst (v := 1) hx hb dL_law_1117 (by decide) ?_
    refine va_forget (fun q hq => h.2.2.2.2 q hq) ?_
    refine W.widen (k := 600000) (n := 7302250) (by decide) (by decide) ?_
    exact lw_ret hx hb hr hlocks dL_law_1118
  | succ n ih =>
    intro k σc σm H locs ls h1 h2 h R hl
    refine lv_iload_n hx hb dL_law_18 rfl (lv_at hl 3 rfl) ?_
    refine lv_aload_n hx hb dL_law_19 rfl (lv_at hl 0 rfl) ?_
    refine va_slen hx hb hX hbl hbA h.2.2 dL_law_20 ?_
    refine lv_iconst (v := (5 : Int32)) hx hb dL_law_21 (by decide) ?_
    refine lv_isub hx hb dL_law_22 ?_
    refine lv_icmp_gt (tgt := 1117) hx hb dL_law_23 (by decide) (fun w => ?_) (fun w => ?_)
    · refine lv_iconst (v := 1) hx hb dL_law_1117 (by decide) ?_
      refine va_forget (fun q hq => h.2.2.2.2 q hq) ?_
      refine W.widen (k := 600000) (n := 7302250) (by decide) (by decide) ?_
      exact lw_ret hx hb hr hlocks dL_law_1118
    · have hk : k + 5 ≤ L := by
        have := fun z => w ((lk_cmp hL (by omega)).mpr z)
        exact Classical.not_not.mp this
      have K : ∀ (u v : hh_S) (H1 : Heap) (locs1 : List Loc), lk_T D cy adc adm s u v H1 locs1 → RR_s u v → W p l e room_1 s m #[Value.ref b] below meth c H1 locs1 151 3851 (lw_Z below #[Value.ref b] s) (F0 m 1111 ls []) := by
        intro u v H1 locs1 h' R'
        refine lv_iinc (v := nI (k + 5)) (lv' := [(3, .int (nI (k + 5))), (0, .ref b), (1, .ref (adc 0)), (2, .ref (adm 0))]) hx hb dL_law_1111 hl (k := 3) rfl (nI_add k 5) (by decide) rfl (fun ls hl => ?_)
        refine lv_goto (tgt := 18) hx hb dL_law_1114 (by decide) ?_
        exact ih (k + 5) u v H1 locs1 ls (by omega) (by omega) h' R' (lv_sub hl [1, 2, 3, 0] rfl)
      have hcl : 151 ≤ 600000 ∧ 3851 ≤ 7302250 := ⟨by decide, by decide⟩
      refine lv_aload_n hx hb dL_law_26 rfl (lv_at hl 0 rfl) ?_
      refine lv_iload_n hx hb dL_law_27 rfl (lv_at hl 3 rfl) ?_
      refine va_sld hx hb hX hbl hbA h.2.2 (vp_in_nI (show k < L by omega) (by omega)) dL_law_28 ?_
      refine lv_bipush (v := (31 : Int32)) hx hb dL_law_29 (by decide) ?_
      refine lv_iand hx hb dL_law_31 ?_
      obtain ⟨j, hj, ej⟩ := pk_andE (xs (nI k).toNatClampNeg) (m := 31) 5 (by decide)
      rw [ej]
      have hj : j < 32 := hj
      rcases (show j = 0 ∨ j = 1 ∨ j = 2 ∨ j = 3 ∨ j = 4 ∨ j = 5 ∨ j = 6 ∨ j = 7 ∨ j = 8 ∨ j = 9 ∨ j = 10 ∨ j = 11 ∨ j = 12 ∨ j = 13 ∨ j = 14 ∨ j = 15 ∨ j = 16 ∨ j = 17 ∨ j = 18 ∨ j = 19 ∨ j = 20 ∨ j = 21 ∨ j = 22 ∨ j = 23 ∨ j = 24 ∨ j = 25 ∨ j = 26 ∨ j = 27 ∨ j = 28 ∨ j = 29 ∨ j = 30 ∨ j = 31 by omega) with rfl | rfl | rfl | rfl | rfl | rfl | rfl | rfl | rfl | rfl | rfl | rfl | rfl | rfl | rfl | rfl | rfl | rfl | rfl | rfl | rfl | rfl | rfl | rfl | rfl | rfl | rfl | rfl | rfl | rfl | rfl | rfl
      · exact lv_tableIn (tgt := 176) hx hb dL_law_32 (by decide) (by decide) rfl (by decide) (lc_0 B F hk hcl h R hl K)
      · exact lv_tableIn (tgt := 199) hx hb dL_law_32 (by decide) (by decide) rfl (by decide) (lc_1 B F hk hcl h R hl K)
      · exact lv_tableIn (tgt := 212) hx hb dL_law_32 (by decide) (by decide) rfl (by decide) (lc_2 B F hk hcl h R hl K)
      · exact lv_tableIn (tgt := 225) hx hb dL_law_32 (by decide) (by decide) rfl (by decide) (lc_3 B F hk hcl h R hl K)
      · exact lv_tableIn (tgt := 238) hx hb dL_law_32 (by decide) (by decide) rfl (by decide) (lc_4 B F hk hcl h R hl K)
      · exact lv_tableIn (tgt := 271) hx hb dL_law_32 (by decide) (by decide) rfl (by decide) (lc_5 B F hk hcl h R hl K)
      · exact lv_tableIn (tgt := 304) hx hb dL_law_32 (by decide) (by decide) rfl (by decide) (lc_6 B F hk hcl h R hl K)
      · exact lv_tableIn (tgt := 337) hx hb dL_law_32 (by decide) (by decide) rfl (by decide) (lc_7 B F hk hcl h R hl K)
      · exact lv_tableIn (tgt := 370) hx hb dL_law_32 (by decide) (by decide) rfl (by decide) (lc_8 B F hk hcl h R hl K)
      · exact lv_tableIn (tgt := 403) hx hb dL_law_32 (by decide) (by decide) rfl (by decide) (lc_9 B F hk hcl h R hl K)
      · exact lv_tableIn (tgt := 436) hx hb dL_law_32 (by decide) (by decide) rfl (by decide) (lc_10 B F hk hcl h R hl K)
      · exact lv_tableIn (tgt := 449) hx hb dL_law_32 (by decide) (by decide) rfl (by decide) (lc_11 B F hk hcl h R hl K)
      · exact lv_tableIn (tgt := 498) hx hb dL_law_32 (by decide) (by decide) rfl (by decide) (lc_12 B F hk hcl h R hl K)
      · exact lv_tableIn (tgt := 541) hx hb dL_law_32 (by decide) (by decide) rfl (by decide) (lc_13 B F hk hcl h R hl K)
      · exact lv_tableIn (tgt := 574) hx hb dL_law_32 (by decide) (by decide) rfl (by decide) (lc_14 B F hk hcl h R hl K)
      · exact lv_tableIn (tgt := 607) hx hb dL_law_32 (by decide) (by decide) rfl (by decide) (lc_15 B F hk hcl h R hl K)
      · exact lv_tableIn (tgt := 640) hx hb dL_law_32 (by decide) (by decide) rfl (by decide) (lc_16 B F hk hcl h R hl K)
      · exact lv_tableIn (tgt := 653) hx hb dL_law_32 (by decide) (by decide) rfl (by decide) (lc_17 B F hk hcl h R hl K)
      · exact lv_tableIn (tgt := 686) hx hb dL_law_32 (by decide) (by decide) rfl (by decide) (lc_18 B F hk hcl h R hl K)
      · exact lv_tableIn (tgt := 739) hx hb dL_law_32 (by decide) (by decide) rfl (by decide) (lc_19 B F hk hcl h R hl K)
      · exact lv_tableIn (tgt := 762) hx hb dL_law_32 (by decide) (by decide) rfl (by decide) (lc_20 B F hk hcl h R hl K)
      · exact lv_tableIn (tgt := 795) hx hb dL_law_32 (by decide) (by decide) rfl (by decide) (lc_21 B F hk hcl h R hl K)
      · exact lv_tableIn (tgt := 829) hx hb dL_law_32 (by decide) (by decide) rfl (by decide) (lc_22 B F hk hcl h R hl K)
      · exact lv_tableIn (tgt := 873) hx hb dL_law_32 (by decide) (by decide) rfl (by decide) (lc_23 B F hk hcl h R hl K)
      · exact lv_tableIn (tgt := 896) hx hb dL_law_32 (by decide) (by decide) rfl (by decide) (lc_24 B F hk hcl h R hl K)
      · exact lv_tableIn (tgt := 919) hx hb dL_law_32 (by decide) (by decide) rfl (by decide) (lc_25 B F hk hcl h R hl K)
      · exact lv_tableIn (tgt := 943) hx hb dL_law_32 (by decide) (by decide) rfl (by decide) (lc_26 B F hk hcl h R hl K)
      · exact lv_tableIn (tgt := 966) hx hb dL_law_32 (by decide) (by decide) rfl (by decide) (lc_27 B F hk hcl h R hl K)
      · exact lv_tableIn (tgt := 989) hx hb dL_law_32 (by decide) (by decide) rfl (by decide) (lc_28 B F hk hcl h R hl K)
      · exact lv_tableIn (tgt := 1032) hx hb dL_law_32 (by decide) (by decide) rfl (by decide) (lc_29 B F hk hcl h R hl K)
      · exact lv_tableIn (tgt := 1055) hx hb dL_law_32 (by decide) (by decide) rfl (by decide) (lc_30 B F hk hcl h R hl K)
      · exact lv_tableIn (tgt := 1088) hx hb dL_law_32 (by decide) (by decide) rfl (by decide) (lc_31 B F hk hcl h R hl K)
