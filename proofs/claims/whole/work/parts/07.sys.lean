abbrev hh_cl : List vw_C := [(RX0, TX0, 4), (RX1, TX1, 7), (RX2, TX2, 9), (RX3, TX3, 4), (RX4, TX4, 2), (RX5, TX5, 1), (RX6, TX6, 5), (RX7, TX7, 7), (RX8, TX8, 13), (RX9, TX9, 37)]
def hm_f : List (List (Nat × Nat)) := [[(0, 0), (2, 1), (0, 0), (2, 2), (2, 3), (2, 4), (2, 5), (0, 0), (2, 6), (2, 7), (2, 8), (2, 9), (2, 10), (0, 0), (2, 11), (2, 12), (2, 13), (2, 14), (2, 15), (2, 16), (0, 0), (0, 0), (0, 0), (2, 17), (2, 18), (2, 19), (2, 20), (0, 0), (2, 21), (2, 22), (2, 23), (2, 24), (2, 25), (2, 26), (1, 0), (0, 0), (2, 27)]]
def hm_a : List (Nat × Nat × Nat) := [(0, 60, 0), (0, 8, 0), (0, 8, 0), (0, 8, 0), (0, 8, 0), (0, 24, 0), (0, 24, 0), (0, 24, 0), (0, 24, 0), (0, 24, 0), (1, 10, 0), (0, 10, 0), (0, 240, 0), (0, 6, 0), (0, 21, 0), (0, 21, 0), (0, 96, 0), (0, 480, 0), (0, 96, 0), (0, 480, 0), (0, 8, 0), (0, 8, 0), (0, 8, 0), (0, 8, 0), (0, 4, 0), (2, 25, 0), (0, 24, 0)]
def hm_c : List Nat := [9]
def hm_Y : hh_Y := ((1, 28), (fun o => hm_c.getD o 0), (fun o => (hm_f.getD o []).length), (fun o j => (hm_f.getD o []).getD j (0, 0)), (fun k => hm_a.getD (k - 1) (0, 0, 0)))
theorem hm_n : ∀ o : Nat, hm_Y.2.2.1 o ≤ 64 := by
  intro o
  show (hm_f.getD o []).length ≤ 64
  by_cases h : o < 1
  · revert o
    decide +kernel
  · rw [List.getD_eq_getElem?_getD, List.getElem?_eq_none (by show 1 ≤ o; omega)]
    decide
theorem fm_0_0 : hh_fd hm_Y 0 0 0 0 := ⟨by decide, by decide, by decide, rfl⟩
theorem fm_0_1 : hh_fd hm_Y 0 1 2 1 := ⟨by decide, by decide, by decide, rfl⟩
theorem fm_0_2 : hh_fd hm_Y 0 2 0 0 := ⟨by decide, by decide, by decide, rfl⟩
theorem fm_0_3 : hh_fd hm_Y 0 3 2 2 := ⟨by decide, by decide, by decide, rfl⟩
theorem fm_0_4 : hh_fd hm_Y 0 4 2 3 := ⟨by decide, by decide, by decide, rfl⟩
theorem fm_0_5 : hh_fd hm_Y 0 5 2 4 := ⟨by decide, by decide, by decide, rfl⟩
theorem fm_0_6 : hh_fd hm_Y 0 6 2 5 := ⟨by decide, by decide, by decide, rfl⟩
theorem fm_0_7 : hh_fd hm_Y 0 7 0 0 := ⟨by decide, by decide, by decide, rfl⟩
theorem fm_0_8 : hh_fd hm_Y 0 8 2 6 := ⟨by decide, by decide, by decide, rfl⟩
theorem fm_0_9 : hh_fd hm_Y 0 9 2 7 := ⟨by decide, by decide, by decide, rfl⟩
theorem fm_0_10 : hh_fd hm_Y 0 10 2 8 := ⟨by decide, by decide, by decide, rfl⟩
theorem fm_0_11 : hh_fd hm_Y 0 11 2 9 := ⟨by decide, by decide, by decide, rfl⟩
theorem fm_0_12 : hh_fd hm_Y 0 12 2 10 := ⟨by decide, by decide, by decide, rfl⟩
theorem fm_0_13 : hh_fd hm_Y 0 13 0 0 := ⟨by decide, by decide, by decide, rfl⟩
theorem fm_0_14 : hh_fd hm_Y 0 14 2 11 := ⟨by decide, by decide, by decide, rfl⟩
theorem fm_0_15 : hh_fd hm_Y 0 15 2 12 := ⟨by decide, by decide, by decide, rfl⟩
theorem fm_0_16 : hh_fd hm_Y 0 16 2 13 := ⟨by decide, by decide, by decide, rfl⟩
theorem fm_0_17 : hh_fd hm_Y 0 17 2 14 := ⟨by decide, by decide, by decide, rfl⟩
theorem fm_0_18 : hh_fd hm_Y 0 18 2 15 := ⟨by decide, by decide, by decide, rfl⟩
theorem fm_0_19 : hh_fd hm_Y 0 19 2 16 := ⟨by decide, by decide, by decide, rfl⟩
theorem fm_0_20 : hh_fd hm_Y 0 20 0 0 := ⟨by decide, by decide, by decide, rfl⟩
theorem fm_0_21 : hh_fd hm_Y 0 21 0 0 := ⟨by decide, by decide, by decide, rfl⟩
theorem fm_0_22 : hh_fd hm_Y 0 22 0 0 := ⟨by decide, by decide, by decide, rfl⟩
theorem fm_0_23 : hh_fd hm_Y 0 23 2 17 := ⟨by decide, by decide, by decide, rfl⟩
theorem fm_0_24 : hh_fd hm_Y 0 24 2 18 := ⟨by decide, by decide, by decide, rfl⟩
theorem fm_0_25 : hh_fd hm_Y 0 25 2 19 := ⟨by decide, by decide, by decide, rfl⟩
theorem fm_0_26 : hh_fd hm_Y 0 26 2 20 := ⟨by decide, by decide, by decide, rfl⟩
theorem fm_0_27 : hh_fd hm_Y 0 27 0 0 := ⟨by decide, by decide, by decide, rfl⟩
theorem fm_0_28 : hh_fd hm_Y 0 28 2 21 := ⟨by decide, by decide, by decide, rfl⟩
theorem fm_0_29 : hh_fd hm_Y 0 29 2 22 := ⟨by decide, by decide, by decide, rfl⟩
theorem fm_0_30 : hh_fd hm_Y 0 30 2 23 := ⟨by decide, by decide, by decide, rfl⟩
theorem fm_0_31 : hh_fd hm_Y 0 31 2 24 := ⟨by decide, by decide, by decide, rfl⟩
theorem fm_0_32 : hh_fd hm_Y 0 32 2 25 := ⟨by decide, by decide, by decide, rfl⟩
theorem fm_0_33 : hh_fd hm_Y 0 33 2 26 := ⟨by decide, by decide, by decide, rfl⟩
theorem fm_0_34 : hh_fd hm_Y 0 34 1 0 := ⟨by decide, by decide, by decide, rfl⟩
theorem fm_0_35 : hh_fd hm_Y 0 35 0 0 := ⟨by decide, by decide, by decide, rfl⟩
theorem fm_0_36 : hh_fd hm_Y 0 36 2 27 := ⟨by decide, by decide, by decide, rfl⟩
theorem km_0 : hh_cl[hm_Y.2.1 0]? = some (RX9, TX9, 37) := rfl
theorem am_1 : hh_ar hm_Y 1 0 60 0 := ⟨by decide, by decide, rfl⟩
theorem am_2 : hh_ar hm_Y 2 0 8 0 := ⟨by decide, by decide, rfl⟩
theorem am_3 : hh_ar hm_Y 3 0 8 0 := ⟨by decide, by decide, rfl⟩
theorem am_4 : hh_ar hm_Y 4 0 8 0 := ⟨by decide, by decide, rfl⟩
theorem am_5 : hh_ar hm_Y 5 0 8 0 := ⟨by decide, by decide, rfl⟩
theorem am_6 : hh_ar hm_Y 6 0 24 0 := ⟨by decide, by decide, rfl⟩
theorem am_7 : hh_ar hm_Y 7 0 24 0 := ⟨by decide, by decide, rfl⟩
theorem am_8 : hh_ar hm_Y 8 0 24 0 := ⟨by decide, by decide, rfl⟩
theorem am_9 : hh_ar hm_Y 9 0 24 0 := ⟨by decide, by decide, rfl⟩
theorem am_10 : hh_ar hm_Y 10 0 24 0 := ⟨by decide, by decide, rfl⟩
theorem am_11 : hh_ar hm_Y 11 1 10 0 := ⟨by decide, by decide, rfl⟩
theorem am_12 : hh_ar hm_Y 12 0 10 0 := ⟨by decide, by decide, rfl⟩
theorem am_13 : hh_ar hm_Y 13 0 240 0 := ⟨by decide, by decide, rfl⟩
theorem am_14 : hh_ar hm_Y 14 0 6 0 := ⟨by decide, by decide, rfl⟩
theorem am_15 : hh_ar hm_Y 15 0 21 0 := ⟨by decide, by decide, rfl⟩
theorem am_16 : hh_ar hm_Y 16 0 21 0 := ⟨by decide, by decide, rfl⟩
theorem am_17 : hh_ar hm_Y 17 0 96 0 := ⟨by decide, by decide, rfl⟩
theorem am_18 : hh_ar hm_Y 18 0 480 0 := ⟨by decide, by decide, rfl⟩
theorem am_19 : hh_ar hm_Y 19 0 96 0 := ⟨by decide, by decide, rfl⟩
theorem am_20 : hh_ar hm_Y 20 0 480 0 := ⟨by decide, by decide, rfl⟩
theorem am_21 : hh_ar hm_Y 21 0 8 0 := ⟨by decide, by decide, rfl⟩
theorem am_22 : hh_ar hm_Y 22 0 8 0 := ⟨by decide, by decide, rfl⟩
theorem am_23 : hh_ar hm_Y 23 0 8 0 := ⟨by decide, by decide, rfl⟩
theorem am_24 : hh_ar hm_Y 24 0 8 0 := ⟨by decide, by decide, rfl⟩
theorem am_25 : hh_ar hm_Y 25 0 4 0 := ⟨by decide, by decide, rfl⟩
theorem am_26 : hh_ar hm_Y 26 2 25 0 := ⟨by decide, by decide, rfl⟩
theorem am_27 : hh_ar hm_Y 27 0 24 0 := ⟨by decide, by decide, rfl⟩
def hc_f : List (List (Nat × Nat)) := [[(2, 1), (2, 2), (2, 4), (2, 5), (2, 6), (2, 7), (2, 8), (2, 9), (2, 10), (0, 0), (0, 0), (0, 0), (0, 0)], [(0, 0), (2, 3), (2, 19), (0, 0), (0, 0), (0, 0), (0, 0)], [(0, 0), (2, 11), (2, 12), (2, 13), (2, 14)], [(0, 0), (2, 15), (2, 16), (2, 17), (2, 18)], [(0, 0), (2, 20), (2, 21), (2, 22), (2, 23), (2, 24), (2, 25)], [(0, 0), (2, 26), (2, 27), (2, 28)], [(2, 29)], [(2, 30), (2, 31), (2, 4), (2, 5), (2, 6), (2, 32), (2, 33), (2, 34), (2, 35)], [(2, 36), (2, 37), (2, 4), (2, 5), (2, 6), (2, 38), (2, 39), (2, 40), (2, 41)], [(0, 0), (1, 0), (1, 0), (2, 42)], [(2, 43), (2, 44)]]
def hc_a : List (Nat × Nat × Nat) := [(0, 8, 0), (0, 8, 0), (0, 8, 0), (0, 8, 0), (0, 8, 0), (0, 8, 0), (0, 8, 0), (0, 8, 0), (0, 60, 0), (0, 24, 0), (0, 24, 0), (0, 24, 0), (0, 24, 0), (0, 24, 0), (0, 24, 0), (1, 10, 0), (0, 10, 0), (3, 10, 45), (0, 6, 0), (3, 24, 55), (3, 10, 79), (2, 48, 0), (2, 4, 0), (2, 4, 0), (0, 24, 0), (3, 24, 89), (3, 10, 113), (2, 48, 0), (2, 4, 0), (2, 4, 0), (0, 24, 0), (2, 25, 0), (0, 21, 0), (0, 21, 0)]
def hc_c : List Nat := [8, 7, 6, 6, 1, 0, 5, 2, 2, 3, 4]
def hc_Y : hh_Y := ((11, 123), (fun o => hc_c.getD o 0), (fun o => (hc_f.getD o []).length), (fun o j => (hc_f.getD o []).getD j (0, 0)), (fun k => if k < 45 then hc_a.getD (k - 11) (0, 0, 0) else if k < 55 then (0, 24, 0) else if (k - 55) % 34 < 24 then (0, 4, 0) else (0, 48, 0)))
theorem hc_n : ∀ o : Nat, hc_Y.2.2.1 o ≤ 64 := by
  intro o
  show (hc_f.getD o []).length ≤ 64
  by_cases h : o < 11
  · revert o
    decide +kernel
  · rw [List.getD_eq_getElem?_getD, List.getElem?_eq_none (by show 11 ≤ o; omega)]
    decide
theorem fc_0_0 : hh_fd hc_Y 0 0 2 1 := ⟨by decide, by decide, by decide, rfl⟩
theorem fc_0_1 : hh_fd hc_Y 0 1 2 2 := ⟨by decide, by decide, by decide, rfl⟩
theorem fc_0_2 : hh_fd hc_Y 0 2 2 4 := ⟨by decide, by decide, by decide, rfl⟩
theorem fc_0_3 : hh_fd hc_Y 0 3 2 5 := ⟨by decide, by decide, by decide, rfl⟩
theorem fc_0_4 : hh_fd hc_Y 0 4 2 6 := ⟨by decide, by decide, by decide, rfl⟩
theorem fc_0_5 : hh_fd hc_Y 0 5 2 7 := ⟨by decide, by decide, by decide, rfl⟩
theorem fc_0_6 : hh_fd hc_Y 0 6 2 8 := ⟨by decide, by decide, by decide, rfl⟩
theorem fc_0_7 : hh_fd hc_Y 0 7 2 9 := ⟨by decide, by decide, by decide, rfl⟩
theorem fc_0_8 : hh_fd hc_Y 0 8 2 10 := ⟨by decide, by decide, by decide, rfl⟩
theorem fc_0_9 : hh_fd hc_Y 0 9 0 0 := ⟨by decide, by decide, by decide, rfl⟩
theorem fc_0_10 : hh_fd hc_Y 0 10 0 0 := ⟨by decide, by decide, by decide, rfl⟩
theorem fc_0_11 : hh_fd hc_Y 0 11 0 0 := ⟨by decide, by decide, by decide, rfl⟩
theorem fc_0_12 : hh_fd hc_Y 0 12 0 0 := ⟨by decide, by decide, by decide, rfl⟩
theorem kc_0 : hh_cl[hc_Y.2.1 0]? = some (RX8, TX8, 13) := rfl
theorem fc_1_0 : hh_fd hc_Y 1 0 0 0 := ⟨by decide, by decide, by decide, rfl⟩
theorem fc_1_1 : hh_fd hc_Y 1 1 2 3 := ⟨by decide, by decide, by decide, rfl⟩
theorem fc_1_2 : hh_fd hc_Y 1 2 2 19 := ⟨by decide, by decide, by decide, rfl⟩
theorem fc_1_3 : hh_fd hc_Y 1 3 0 0 := ⟨by decide, by decide, by decide, rfl⟩
theorem fc_1_4 : hh_fd hc_Y 1 4 0 0 := ⟨by decide, by decide, by decide, rfl⟩
theorem fc_1_5 : hh_fd hc_Y 1 5 0 0 := ⟨by decide, by decide, by decide, rfl⟩
theorem fc_1_6 : hh_fd hc_Y 1 6 0 0 := ⟨by decide, by decide, by decide, rfl⟩
theorem kc_1 : hh_cl[hc_Y.2.1 1]? = some (RX7, TX7, 7) := rfl
theorem fc_2_0 : hh_fd hc_Y 2 0 0 0 := ⟨by decide, by decide, by decide, rfl⟩
theorem fc_2_1 : hh_fd hc_Y 2 1 2 11 := ⟨by decide, by decide, by decide, rfl⟩
theorem fc_2_2 : hh_fd hc_Y 2 2 2 12 := ⟨by decide, by decide, by decide, rfl⟩
theorem fc_2_3 : hh_fd hc_Y 2 3 2 13 := ⟨by decide, by decide, by decide, rfl⟩
theorem fc_2_4 : hh_fd hc_Y 2 4 2 14 := ⟨by decide, by decide, by decide, rfl⟩
theorem kc_2 : hh_cl[hc_Y.2.1 2]? = some (RX6, TX6, 5) := rfl
theorem fc_3_0 : hh_fd hc_Y 3 0 0 0 := ⟨by decide, by decide, by decide, rfl⟩
theorem fc_3_1 : hh_fd hc_Y 3 1 2 15 := ⟨by decide, by decide, by decide, rfl⟩
theorem fc_3_2 : hh_fd hc_Y 3 2 2 16 := ⟨by decide, by decide, by decide, rfl⟩
theorem fc_3_3 : hh_fd hc_Y 3 3 2 17 := ⟨by decide, by decide, by decide, rfl⟩
theorem fc_3_4 : hh_fd hc_Y 3 4 2 18 := ⟨by decide, by decide, by decide, rfl⟩
theorem kc_3 : hh_cl[hc_Y.2.1 3]? = some (RX6, TX6, 5) := rfl
theorem fc_4_0 : hh_fd hc_Y 4 0 0 0 := ⟨by decide, by decide, by decide, rfl⟩
theorem fc_4_1 : hh_fd hc_Y 4 1 2 20 := ⟨by decide, by decide, by decide, rfl⟩
theorem fc_4_2 : hh_fd hc_Y 4 2 2 21 := ⟨by decide, by decide, by decide, rfl⟩
theorem fc_4_3 : hh_fd hc_Y 4 3 2 22 := ⟨by decide, by decide, by decide, rfl⟩
theorem fc_4_4 : hh_fd hc_Y 4 4 2 23 := ⟨by decide, by decide, by decide, rfl⟩
theorem fc_4_5 : hh_fd hc_Y 4 5 2 24 := ⟨by decide, by decide, by decide, rfl⟩
theorem fc_4_6 : hh_fd hc_Y 4 6 2 25 := ⟨by decide, by decide, by decide, rfl⟩
theorem kc_4 : hh_cl[hc_Y.2.1 4]? = some (RX1, TX1, 7) := rfl
theorem fc_5_0 : hh_fd hc_Y 5 0 0 0 := ⟨by decide, by decide, by decide, rfl⟩
theorem fc_5_1 : hh_fd hc_Y 5 1 2 26 := ⟨by decide, by decide, by decide, rfl⟩
theorem fc_5_2 : hh_fd hc_Y 5 2 2 27 := ⟨by decide, by decide, by decide, rfl⟩
theorem fc_5_3 : hh_fd hc_Y 5 3 2 28 := ⟨by decide, by decide, by decide, rfl⟩
theorem kc_5 : hh_cl[hc_Y.2.1 5]? = some (RX0, TX0, 4) := rfl
theorem fc_6_0 : hh_fd hc_Y 6 0 2 29 := ⟨by decide, by decide, by decide, rfl⟩
theorem kc_6 : hh_cl[hc_Y.2.1 6]? = some (RX5, TX5, 1) := rfl
theorem fc_7_0 : hh_fd hc_Y 7 0 2 30 := ⟨by decide, by decide, by decide, rfl⟩
theorem fc_7_1 : hh_fd hc_Y 7 1 2 31 := ⟨by decide, by decide, by decide, rfl⟩
theorem fc_7_2 : hh_fd hc_Y 7 2 2 4 := ⟨by decide, by decide, by decide, rfl⟩
theorem fc_7_3 : hh_fd hc_Y 7 3 2 5 := ⟨by decide, by decide, by decide, rfl⟩
theorem fc_7_4 : hh_fd hc_Y 7 4 2 6 := ⟨by decide, by decide, by decide, rfl⟩
theorem fc_7_5 : hh_fd hc_Y 7 5 2 32 := ⟨by decide, by decide, by decide, rfl⟩
theorem fc_7_6 : hh_fd hc_Y 7 6 2 33 := ⟨by decide, by decide, by decide, rfl⟩
theorem fc_7_7 : hh_fd hc_Y 7 7 2 34 := ⟨by decide, by decide, by decide, rfl⟩
theorem fc_7_8 : hh_fd hc_Y 7 8 2 35 := ⟨by decide, by decide, by decide, rfl⟩
theorem kc_7 : hh_cl[hc_Y.2.1 7]? = some (RX2, TX2, 9) := rfl
theorem fc_8_0 : hh_fd hc_Y 8 0 2 36 := ⟨by decide, by decide, by decide, rfl⟩
theorem fc_8_1 : hh_fd hc_Y 8 1 2 37 := ⟨by decide, by decide, by decide, rfl⟩
theorem fc_8_2 : hh_fd hc_Y 8 2 2 4 := ⟨by decide, by decide, by decide, rfl⟩
theorem fc_8_3 : hh_fd hc_Y 8 3 2 5 := ⟨by decide, by decide, by decide, rfl⟩
theorem fc_8_4 : hh_fd hc_Y 8 4 2 6 := ⟨by decide, by decide, by decide, rfl⟩
theorem fc_8_5 : hh_fd hc_Y 8 5 2 38 := ⟨by decide, by decide, by decide, rfl⟩
theorem fc_8_6 : hh_fd hc_Y 8 6 2 39 := ⟨by decide, by decide, by decide, rfl⟩
theorem fc_8_7 : hh_fd hc_Y 8 7 2 40 := ⟨by decide, by decide, by decide, rfl⟩
theorem fc_8_8 : hh_fd hc_Y 8 8 2 41 := ⟨by decide, by decide, by decide, rfl⟩
theorem kc_8 : hh_cl[hc_Y.2.1 8]? = some (RX2, TX2, 9) := rfl
theorem fc_9_0 : hh_fd hc_Y 9 0 0 0 := ⟨by decide, by decide, by decide, rfl⟩
theorem fc_9_1 : hh_fd hc_Y 9 1 1 0 := ⟨by decide, by decide, by decide, rfl⟩
theorem fc_9_2 : hh_fd hc_Y 9 2 1 0 := ⟨by decide, by decide, by decide, rfl⟩
theorem fc_9_3 : hh_fd hc_Y 9 3 2 42 := ⟨by decide, by decide, by decide, rfl⟩
theorem kc_9 : hh_cl[hc_Y.2.1 9]? = some (RX3, TX3, 4) := rfl
theorem fc_10_0 : hh_fd hc_Y 10 0 2 43 := ⟨by decide, by decide, by decide, rfl⟩
theorem fc_10_1 : hh_fd hc_Y 10 1 2 44 := ⟨by decide, by decide, by decide, rfl⟩
theorem kc_10 : hh_cl[hc_Y.2.1 10]? = some (RX4, TX4, 2) := rfl
theorem ac_11 : hh_ar hc_Y 11 0 8 0 := ⟨by decide, by decide, rfl⟩
theorem ac_12 : hh_ar hc_Y 12 0 8 0 := ⟨by decide, by decide, rfl⟩
theorem ac_13 : hh_ar hc_Y 13 0 8 0 := ⟨by decide, by decide, rfl⟩
theorem ac_14 : hh_ar hc_Y 14 0 8 0 := ⟨by decide, by decide, rfl⟩
theorem ac_15 : hh_ar hc_Y 15 0 8 0 := ⟨by decide, by decide, rfl⟩
theorem ac_16 : hh_ar hc_Y 16 0 8 0 := ⟨by decide, by decide, rfl⟩
theorem ac_17 : hh_ar hc_Y 17 0 8 0 := ⟨by decide, by decide, rfl⟩
theorem ac_18 : hh_ar hc_Y 18 0 8 0 := ⟨by decide, by decide, rfl⟩
theorem ac_19 : hh_ar hc_Y 19 0 60 0 := ⟨by decide, by decide, rfl⟩
theorem ac_20 : hh_ar hc_Y 20 0 24 0 := ⟨by decide, by decide, rfl⟩
theorem ac_21 : hh_ar hc_Y 21 0 24 0 := ⟨by decide, by decide, rfl⟩
theorem ac_22 : hh_ar hc_Y 22 0 24 0 := ⟨by decide, by decide, rfl⟩
theorem ac_23 : hh_ar hc_Y 23 0 24 0 := ⟨by decide, by decide, rfl⟩
theorem ac_24 : hh_ar hc_Y 24 0 24 0 := ⟨by decide, by decide, rfl⟩
theorem ac_25 : hh_ar hc_Y 25 0 24 0 := ⟨by decide, by decide, rfl⟩
theorem ac_26 : hh_ar hc_Y 26 1 10 0 := ⟨by decide, by decide, rfl⟩
theorem ac_27 : hh_ar hc_Y 27 0 10 0 := ⟨by decide, by decide, rfl⟩
theorem ac_28 : hh_ar hc_Y 28 3 10 45 := ⟨by decide, by decide, rfl⟩
theorem ac_29 : hh_ar hc_Y 29 0 6 0 := ⟨by decide, by decide, rfl⟩
theorem ac_30 : hh_ar hc_Y 30 3 24 55 := ⟨by decide, by decide, rfl⟩
theorem ac_31 : hh_ar hc_Y 31 3 10 79 := ⟨by decide, by decide, rfl⟩
theorem ac_32 : hh_ar hc_Y 32 2 48 0 := ⟨by decide, by decide, rfl⟩
theorem ac_33 : hh_ar hc_Y 33 2 4 0 := ⟨by decide, by decide, rfl⟩
theorem ac_34 : hh_ar hc_Y 34 2 4 0 := ⟨by decide, by decide, rfl⟩
theorem ac_35 : hh_ar hc_Y 35 0 24 0 := ⟨by decide, by decide, rfl⟩
theorem ac_36 : hh_ar hc_Y 36 3 24 89 := ⟨by decide, by decide, rfl⟩
theorem ac_37 : hh_ar hc_Y 37 3 10 113 := ⟨by decide, by decide, rfl⟩
theorem ac_38 : hh_ar hc_Y 38 2 48 0 := ⟨by decide, by decide, rfl⟩
theorem ac_39 : hh_ar hc_Y 39 2 4 0 := ⟨by decide, by decide, rfl⟩
theorem ac_40 : hh_ar hc_Y 40 2 4 0 := ⟨by decide, by decide, rfl⟩
theorem ac_41 : hh_ar hc_Y 41 0 24 0 := ⟨by decide, by decide, rfl⟩
theorem ac_42 : hh_ar hc_Y 42 2 25 0 := ⟨by decide, by decide, rfl⟩
theorem ac_43 : hh_ar hc_Y 43 0 21 0 := ⟨by decide, by decide, rfl⟩
theorem ac_44 : hh_ar hc_Y 44 0 21 0 := ⟨by decide, by decide, rfl⟩
theorem fj_0 {b : Nat} (hb : b = 0 ∨ b = 1) : hh_fd hc_Y (7 + b) 0 2 (30 + 6 * b) := by rcases hb with rfl | rfl <;> exact ⟨by decide, by decide, by decide, rfl⟩
theorem fj_1 {b : Nat} (hb : b = 0 ∨ b = 1) : hh_fd hc_Y (7 + b) 1 2 (31 + 6 * b) := by rcases hb with rfl | rfl <;> exact ⟨by decide, by decide, by decide, rfl⟩
theorem fj_2 {b : Nat} (hb : b = 0 ∨ b = 1) : hh_fd hc_Y (7 + b) 2 2 4 := by rcases hb with rfl | rfl <;> exact ⟨by decide, by decide, by decide, rfl⟩
theorem fj_3 {b : Nat} (hb : b = 0 ∨ b = 1) : hh_fd hc_Y (7 + b) 3 2 5 := by rcases hb with rfl | rfl <;> exact ⟨by decide, by decide, by decide, rfl⟩
theorem fj_4 {b : Nat} (hb : b = 0 ∨ b = 1) : hh_fd hc_Y (7 + b) 4 2 6 := by rcases hb with rfl | rfl <;> exact ⟨by decide, by decide, by decide, rfl⟩
theorem fj_5 {b : Nat} (hb : b = 0 ∨ b = 1) : hh_fd hc_Y (7 + b) 5 2 (32 + 6 * b) := by rcases hb with rfl | rfl <;> exact ⟨by decide, by decide, by decide, rfl⟩
theorem fj_6 {b : Nat} (hb : b = 0 ∨ b = 1) : hh_fd hc_Y (7 + b) 6 2 (33 + 6 * b) := by rcases hb with rfl | rfl <;> exact ⟨by decide, by decide, by decide, rfl⟩
theorem fj_7 {b : Nat} (hb : b = 0 ∨ b = 1) : hh_fd hc_Y (7 + b) 7 2 (34 + 6 * b) := by rcases hb with rfl | rfl <;> exact ⟨by decide, by decide, by decide, rfl⟩
theorem fj_8 {b : Nat} (hb : b = 0 ∨ b = 1) : hh_fd hc_Y (7 + b) 8 2 (35 + 6 * b) := by rcases hb with rfl | rfl <;> exact ⟨by decide, by decide, by decide, rfl⟩
theorem kj {b : Nat} (hb : b = 0 ∨ b = 1) : hh_cl[hc_Y.2.1 (7 + b)]? = some (RX2, TX2, 9) := by rcases hb with rfl | rfl <;> rfl
theorem aj_30 {b : Nat} (hb : b = 0 ∨ b = 1) : hh_ar hc_Y (30 + 6 * b) 3 24 (55 + 34 * b) := by rcases hb with rfl | rfl <;> exact ⟨by decide, by decide, rfl⟩
theorem aj_31 {b : Nat} (hb : b = 0 ∨ b = 1) : hh_ar hc_Y (31 + 6 * b) 3 10 (79 + 34 * b) := by rcases hb with rfl | rfl <;> exact ⟨by decide, by decide, rfl⟩
theorem aj_32 {b : Nat} (hb : b = 0 ∨ b = 1) : hh_ar hc_Y (32 + 6 * b) 2 48 0 := by rcases hb with rfl | rfl <;> exact ⟨by decide, by decide, rfl⟩
theorem aj_33 {b : Nat} (hb : b = 0 ∨ b = 1) : hh_ar hc_Y (33 + 6 * b) 2 4 0 := by rcases hb with rfl | rfl <;> exact ⟨by decide, by decide, rfl⟩
theorem aj_34 {b : Nat} (hb : b = 0 ∨ b = 1) : hh_ar hc_Y (34 + 6 * b) 2 4 0 := by rcases hb with rfl | rfl <;> exact ⟨by decide, by decide, rfl⟩
theorem aj_35 {b : Nat} (hb : b = 0 ∨ b = 1) : hh_ar hc_Y (35 + 6 * b) 0 24 0 := by rcases hb with rfl | rfl <;> exact ⟨by decide, by decide, rfl⟩
theorem hh_in_lt {i : Int32} {n : Nat} (h : vp_in i n) : i.toNatClampNeg < n := Nat.not_le.mp fun q => h (Or.inr q)
theorem hh_yc1 : hc_Y.1.1 = 11 := rfl
theorem hh_yc2 : hc_Y.1.2 = 123 := rfl
theorem hh_yca (k : Nat) : hc_Y.2.2.2.2 k = if k < 45 then hc_a.getD (k - 11) (0, 0, 0) else if k < 55 then (0, 24, 0) else if (k - 55) % 34 < 24 then (0, 4, 0) else (0, 48, 0) := rfl
theorem ar_said {i : Int32} (h : vp_in i 10) : hh_ar hc_Y (45 + i.toNatClampNeg) 0 24 0 := by
  have := hh_in_lt h
  refine ⟨by rw [hh_yc2]; omega, by rw [hh_yc1]; omega, ?_⟩
  rw [hh_yca, if_neg (by omega), if_pos (by omega)]
theorem ar_sh {i : Int32} {b : Nat} (hb : b = 0 ∨ b = 1) (h : vp_in i 24) : hh_ar hc_Y ((55 + 34 * b) + i.toNatClampNeg) 0 4 0 := by
  have := hh_in_lt h
  refine ⟨by rw [hh_yc2]; omega, by rw [hh_yc1]; omega, ?_⟩
  rw [hh_yca, if_neg (by omega), if_neg (by omega), if_pos (by omega)]
theorem ar_nu {i : Int32} {b : Nat} (hb : b = 0 ∨ b = 1) (h : vp_in i 10) : hh_ar hc_Y ((79 + 34 * b) + i.toNatClampNeg) 0 48 0 := by
  have := hh_in_lt h
  refine ⟨by rw [hh_yc2]; omega, by rw [hh_yc1]; omega, ?_⟩
  rw [hh_yca, if_neg (by omega), if_neg (by omega), if_neg (by omega)]
def hz_first (j : Nat) : Int32 := [10, 100, 30, 2, 3, 1].getD j 0
def hz_low (j : Nat) : Int32 := [1, 0, 1, 0, 0, 0].getD j 0
def hz_high (j : Nat) : Int32 := [100, 100000, 60, 100, 100, 100].getD j 0
def hz_ZA (A : Nat → Prop) (U : State) (H : Heap) : Prop := ∃ t1 t2 t3 : Nat, va_Z RX5 "FIRST" "[I" (.ref t1) A U H ∧ va_T .int t1 6 (fun j => .int (hz_first j)) A U H ∧ va_Z RX5 "LOWEST" "[I" (.ref t2) A U H ∧ va_T .int t2 6 (fun j => .int (hz_low j)) A U H ∧ va_Z RX5 "HIGHEST" "[I" (.ref t3) A U H ∧ va_T .int t3 6 (fun j => .int (hz_high j)) A U H
def hz_Z (ad : Nat → Nat) (U : State) : Prop := hz_ZA (hh_A hc_Y ad) U U.heap
theorem hz_ZA.moved {A : Nat → Prop} {u U : State} {H : Heap} (hvm : u.vm.Alike U.vm) (h : hz_ZA A u H) : hz_ZA A U H := by
  obtain ⟨t1, t2, t3, a1, b1, a2, b2, a3, b3⟩ := h
  exact ⟨t1, t2, t3, a1.moved hvm, b1.moved hvm, a2.moved hvm, b2.moved hvm, a3.moved hvm, b3.moved hvm⟩
theorem hz_ZA.kept {A : Nat → Prop} {U : State} {H H1 : Heap} (h : hz_ZA A U H) (hq : ∀ a : Nat, a < H.size → ¬ A a → H1[a]? = H[a]?) : hz_ZA A U H1 := by
  obtain ⟨t1, t2, t3, a1, b1, a2, b2, a3, b3⟩ := h
  exact ⟨t1, t2, t3, a1.kept hq, b1.kept hq, a2.kept hq, b2.kept hq, a3.kept hq, b3.kept hq⟩
theorem hz_ZA.narrow {A B : Nat → Prop} {U : State} {H : Heap} (h : hz_ZA A U H) (hAB : ∀ q, B q → A q) : hz_ZA B U H := by
  obtain ⟨t1, t2, t3, a1, b1, a2, b2, a3, b3⟩ := h
  exact ⟨t1, t2, t3, a1.narrow hAB, b1.narrow hAB, a2.narrow hAB, b2.narrow hAB, a3.narrow hAB, b3.narrow hAB⟩
theorem hz_blind {D : va_G} {cl : List vw_C} {Y : hh_Y} {cy : Nat → ClassId} {ad : Nat → Nat} {σ : hh_S} {av : List Value} : FrameBlind (va_Pc av (fun U => hh_B D cl Y cy ad σ U ∧ hz_Z ad U)) := fun a U g mk q => ⟨q.1, ⟨q.2.1.1, va_K.moved (u := U) (U := U.calling g mk a) (Vm.Alike.refl U.vm) q.2.1.2⟩, hz_ZA.moved (u := U) (U := U.calling g mk a) (Vm.Alike.refl U.vm) q.2.2⟩
theorem hz_preS {p : Program} {s : State} {m : MethodId} {args : Array Value} {c : Code} {H : Heap} {locs : List Loc} {cc : ByteArray} {D : va_G} {cl : List vw_C} {cy : Nat → ClassId} {ad : Nat → Nat} {σ : hh_S} {nL : Nat} {Ts : List Cond} {own : String} (X : hh_X p m c cc nL s args Ts own D cl hc_Y cy ad) (h : hh_H D cl hc_Y cy ad s.heap σ H locs) (hZ : hz_Z ad s) (As : List Value) : PreS s H (va_Pc As (fun U => hh_B D cl hc_Y cy ad σ U ∧ hz_Z ad U)) As := ⟨hz_blind, fun U hU hW => ⟨rfl, ⟨by rw [hU]; exact h.1, va_K.moved hW.alike X.2.1⟩, by
  unfold hz_Z
  rw [hU]
  exact (hz_ZA.kept hZ h.2.2.1).moved hW.alike⟩⟩
