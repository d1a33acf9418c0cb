set_option maxRecDepth 100000 in
set_option maxHeartbeats 40000000 in
theorem pC_row (r n : Int32) (Q : nk_Q) (hq : ∀ h : nk_H, Q (some (.int (f_row r n))) h) : ev_X5_row [.ref 0, .int r, .int n] hC0 Q := by
  all_goals rcases sp_0_5 r with rfl | rfl | rfl | rfl | rfl | rfl | hs_r
  all_goals repeat' first
    | refine eb_begin 29 30 _ _ _ _ _ _ (by decide) rfl rfl (fun h => ?_)
    | refine eb_begin 31 32 _ _ _ _ _ _ (by decide) rfl rfl (fun h => ?_)
    | refine eb_begin 33 34 _ _ _ _ _ _ (by decide) rfl rfl (fun h => ?_)
    | refine eb_begin 35 36 _ _ _ _ _ _ (by decide) rfl rfl (fun h => ?_)
    | refine eb_begin 37 38 _ _ _ _ _ _ (by decide) rfl rfl (fun h => ?_)
    | refine eb_begin 39 40 _ _ _ _ _ _ (by decide) rfl rfl (fun h => ?_)
    | refine nk_s ?_
    | refine nk_br.t (by decide) ?_
    | refine nk_br.f (by decide) ?_
    | (refine nk_br.mk (fun _ => ?_) (fun _ => ?_) <;> try (exfalso; simp only [Int32.lt_iff_toInt_lt, Int32.le_iff_toInt_le, li_m9, li_m4, li_m3, li_m2, li_m1, li_0, li_1, li_2, li_3, li_4, li_5, li_6, li_7, li_9, li_10, li_12, li_15, li_16, li_20, li_40, li_99, li_999, show fC0 2 = 0 from rfl, show fC0 3 = 0 from rfl, show fC0 26 = 0 from rfl, show fC0 27 = 0 from rfl, show fC0 28 = 0 from rfl, show fC0 29 = 0 from rfl, show Int32.ofNat 6 = 6 from rfl, show Int32.ofNat 4 = 4 from rfl, show (0 : Int32) - 1 = -1 from rfl, show iR0 18 = (fun _ => 0) from rfl] at *; omega; done))
    | refine nk_bo0 ?_
    | refine nk_bo1 ?_
    | refine And.intro (by unfold vp_in; decide) ?_
    | (fail; refine nk_swx ?_; first | refine nk_sw_d (by decide) (by decide) ?_ | refine nk_sw_i 0 (by decide) (by decide) ?_ | refine nk_sw_i 1 (by decide) (by decide) ?_ | refine nk_sw_i 2 (by decide) (by decide) ?_ | refine nk_sw_i 3 (by decide) (by decide) ?_ | refine nk_sw_i 4 (by decide) (by decide) ?_ | refine nk_sw_i 5 (by decide) (by decide) ?_ | fail)
    | fail
  all_goals first
    | (refine lf hq ?_
       unfold f_row
       repeat' split
       all_goals first
         | rfl
         | (exfalso; simp only [Int32.lt_iff_toInt_lt, Int32.le_iff_toInt_le, li_m9, li_m4, li_m3, li_m2, li_m1, li_0, li_1, li_2, li_3, li_4, li_5, li_6, li_7, li_9, li_10, li_12, li_15, li_16, li_20, li_40, li_99, li_999, show fC0 2 = 0 from rfl, show fC0 3 = 0 from rfl, show fC0 26 = 0 from rfl, show fC0 27 = 0 from rfl, show fC0 28 = 0 from rfl, show fC0 29 = 0 from rfl, show Int32.ofNat 6 = 6 from rfl, show Int32.ofNat 4 = 4 from rfl, show (0 : Int32) - 1 = -1 from rfl, show iR0 18 = (fun _ => 0) from rfl] at *; omega))
    | (exfalso; simp only [Int32.lt_iff_toInt_lt, Int32.le_iff_toInt_le, li_m9, li_m4, li_m3, li_m2, li_m1, li_0, li_1, li_2, li_3, li_4, li_5, li_6, li_7, li_9, li_10, li_12, li_15, li_16, li_20, li_40, li_99, li_999, show fC0 2 = 0 from rfl, show fC0 3 = 0 from rfl, show fC0 26 = 0 from rfl, show fC0 27 = 0 from rfl, show fC0 28 = 0 from rfl, show fC0 29 = 0 from rfl, show Int32.ofNat 6 = 6 from rfl, show Int32.ofNat 4 = 4 from rfl, show (0 : Int32) - 1 = -1 from rfl, show iR0 18 = (fun _ => 0) from rfl] at *; omega)

set_option maxRecDepth 100000 in
set_option maxHeartbeats 40000000 in
theorem pC_lay (r i v : Int32) (Q : nk_Q) (hq : ∀ h : nk_H, Q (some (.int (f_lay r i v))) h) : ev_X5_lay [.ref 0, .int r, .int i, .int v] hC0 Q := by
  all_goals rcases sp_0_5 r with rfl | rfl | rfl | rfl | rfl | rfl | hs_r
  all_goals repeat' first
    | refine nk_s ?_
    | refine nk_br.t (by decide) ?_
    | refine nk_br.f (by decide) ?_
    | (refine nk_br.mk (fun _ => ?_) (fun _ => ?_) <;> try (exfalso; simp only [Int32.lt_iff_toInt_lt, Int32.le_iff_toInt_le, li_m9, li_m4, li_m3, li_m2, li_m1, li_0, li_1, li_2, li_3, li_4, li_5, li_6, li_7, li_9, li_10, li_12, li_15, li_16, li_20, li_40, li_99, li_999, show fC0 2 = 0 from rfl, show fC0 3 = 0 from rfl, show fC0 26 = 0 from rfl, show fC0 27 = 0 from rfl, show fC0 28 = 0 from rfl, show fC0 29 = 0 from rfl, show Int32.ofNat 6 = 6 from rfl, show Int32.ofNat 4 = 4 from rfl, show (0 : Int32) - 1 = -1 from rfl, show iR0 18 = (fun _ => 0) from rfl] at *; omega; done))
    | refine nk_bo0 ?_
    | refine nk_bo1 ?_
    | refine And.intro (by unfold vp_in; decide) ?_
    | (fail; refine nk_swx ?_; first | refine nk_sw_d (by decide) (by decide) ?_ | refine nk_sw_i 0 (by decide) (by decide) ?_ | refine nk_sw_i 1 (by decide) (by decide) ?_ | refine nk_sw_i 2 (by decide) (by decide) ?_ | refine nk_sw_i 3 (by decide) (by decide) ?_ | refine nk_sw_i 4 (by decide) (by decide) ?_ | refine nk_sw_i 5 (by decide) (by decide) ?_ | fail)
    | fail
  all_goals first
    | (refine lf hq ?_
       unfold f_lay
       repeat' split
       all_goals first
         | rfl
         | (exfalso; simp only [Int32.lt_iff_toInt_lt, Int32.le_iff_toInt_le, li_m9, li_m4, li_m3, li_m2, li_m1, li_0, li_1, li_2, li_3, li_4, li_5, li_6, li_7, li_9, li_10, li_12, li_15, li_16, li_20, li_40, li_99, li_999, show fC0 2 = 0 from rfl, show fC0 3 = 0 from rfl, show fC0 26 = 0 from rfl, show fC0 27 = 0 from rfl, show fC0 28 = 0 from rfl, show fC0 29 = 0 from rfl, show Int32.ofNat 6 = 6 from rfl, show Int32.ofNat 4 = 4 from rfl, show (0 : Int32) - 1 = -1 from rfl, show iR0 18 = (fun _ => 0) from rfl] at *; omega))
    | (exfalso; simp only [Int32.lt_iff_toInt_lt, Int32.le_iff_toInt_le, li_m9, li_m4, li_m3, li_m2, li_m1, li_0, li_1, li_2, li_3, li_4, li_5, li_6, li_7, li_9, li_10, li_12, li_15, li_16, li_20, li_40, li_99, li_999, show fC0 2 = 0 from rfl, show fC0 3 = 0 from rfl, show fC0 26 = 0 from rfl, show fC0 27 = 0 from rfl, show fC0 28 = 0 from rfl, show fC0 29 = 0 from rfl, show Int32.ofNat 6 = 6 from rfl, show Int32.ofNat 4 = 4 from rfl, show (0 : Int32) - 1 = -1 from rfl, show iR0 18 = (fun _ => 0) from rfl] at *; omega)

set_option maxRecDepth 100000 in
set_option maxHeartbeats 40000000 in
theorem pC_at (r i : Int32) (Q : nk_Q) (hq : ∀ h : nk_H, Q (some (.int (f_at r i))) h) : ev_X5_at [.ref 0, .int r, .int i] hC0 Q := by
  all_goals rcases sp_0_5 r with rfl | rfl | rfl | rfl | rfl | rfl | hs_r
  all_goals repeat' first
    | refine nk_s ?_
    | refine nk_br.t (by decide) ?_
    | refine nk_br.f (by decide) ?_
    | (refine nk_br.mk (fun _ => ?_) (fun _ => ?_) <;> try (exfalso; simp only [Int32.lt_iff_toInt_lt, Int32.le_iff_toInt_le, li_m9, li_m4, li_m3, li_m2, li_m1, li_0, li_1, li_2, li_3, li_4, li_5, li_6, li_7, li_9, li_10, li_12, li_15, li_16, li_20, li_40, li_99, li_999, show fC0 2 = 0 from rfl, show fC0 3 = 0 from rfl, show fC0 26 = 0 from rfl, show fC0 27 = 0 from rfl, show fC0 28 = 0 from rfl, show fC0 29 = 0 from rfl, show Int32.ofNat 6 = 6 from rfl, show Int32.ofNat 4 = 4 from rfl, show (0 : Int32) - 1 = -1 from rfl, show iR0 18 = (fun _ => 0) from rfl] at *; omega; done))
    | refine nk_bo0 ?_
    | refine nk_bo1 ?_
    | refine And.intro (by unfold vp_in; decide) ?_
    | (fail; refine nk_swx ?_; first | refine nk_sw_d (by decide) (by decide) ?_ | refine nk_sw_i 0 (by decide) (by decide) ?_ | refine nk_sw_i 1 (by decide) (by decide) ?_ | refine nk_sw_i 2 (by decide) (by decide) ?_ | refine nk_sw_i 3 (by decide) (by decide) ?_ | refine nk_sw_i 4 (by decide) (by decide) ?_ | refine nk_sw_i 5 (by decide) (by decide) ?_ | fail)
    | fail
  all_goals first
    | (refine lf hq ?_
       unfold f_at
       repeat' split
       all_goals first
         | rfl
         | (exfalso; simp only [Int32.lt_iff_toInt_lt, Int32.le_iff_toInt_le, li_m9, li_m4, li_m3, li_m2, li_m1, li_0, li_1, li_2, li_3, li_4, li_5, li_6, li_7, li_9, li_10, li_12, li_15, li_16, li_20, li_40, li_99, li_999, show fC0 2 = 0 from rfl, show fC0 3 = 0 from rfl, show fC0 26 = 0 from rfl, show fC0 27 = 0 from rfl, show fC0 28 = 0 from rfl, show fC0 29 = 0 from rfl, show Int32.ofNat 6 = 6 from rfl, show Int32.ofNat 4 = 4 from rfl, show (0 : Int32) - 1 = -1 from rfl, show iR0 18 = (fun _ => 0) from rfl] at *; omega))
    | (exfalso; simp only [Int32.lt_iff_toInt_lt, Int32.le_iff_toInt_le, li_m9, li_m4, li_m3, li_m2, li_m1, li_0, li_1, li_2, li_3, li_4, li_5, li_6, li_7, li_9, li_10, li_12, li_15, li_16, li_20, li_40, li_99, li_999, show fC0 2 = 0 from rfl, show fC0 3 = 0 from rfl, show fC0 26 = 0 from rfl, show fC0 27 = 0 from rfl, show fC0 28 = 0 from rfl, show fC0 29 = 0 from rfl, show Int32.ofNat 6 = 6 from rfl, show Int32.ofNat 4 = 4 from rfl, show (0 : Int32) - 1 = -1 from rfl, show iR0 18 = (fun _ => 0) from rfl] at *; omega)

set_option maxRecDepth 100000 in
set_option maxHeartbeats 40000000 in
theorem pC_tear (r : Int32) (Q : nk_Q) (hq : ∀ h : nk_H, Q (some (.int (f_tear r))) h) : ev_X5_tear [.ref 0, .int r] hC0 Q := by
  all_goals rcases sp_0_5 r with rfl | rfl | rfl | rfl | rfl | rfl | hs_r
  all_goals repeat' first
    | refine nk_s ?_
    | refine nk_br.t (by decide) ?_
    | refine nk_br.f (by decide) ?_
    | (refine nk_br.mk (fun _ => ?_) (fun _ => ?_) <;> try (exfalso; simp only [Int32.lt_iff_toInt_lt, Int32.le_iff_toInt_le, li_m9, li_m4, li_m3, li_m2, li_m1, li_0, li_1, li_2, li_3, li_4, li_5, li_6, li_7, li_9, li_10, li_12, li_15, li_16, li_20, li_40, li_99, li_999, show fC0 2 = 0 from rfl, show fC0 3 = 0 from rfl, show fC0 26 = 0 from rfl, show fC0 27 = 0 from rfl, show fC0 28 = 0 from rfl, show fC0 29 = 0 from rfl, show Int32.ofNat 6 = 6 from rfl, show Int32.ofNat 4 = 4 from rfl, show (0 : Int32) - 1 = -1 from rfl, show iR0 18 = (fun _ => 0) from rfl] at *; omega; done))
    | refine nk_bo0 ?_
    | refine nk_bo1 ?_
    | refine And.intro (by unfold vp_in; decide) ?_
    | (fail; refine nk_swx ?_; first | refine nk_sw_d (by decide) (by decide) ?_ | refine nk_sw_i 0 (by decide) (by decide) ?_ | refine nk_sw_i 1 (by decide) (by decide) ?_ | refine nk_sw_i 2 (by decide) (by decide) ?_ | refine nk_sw_i 3 (by decide) (by decide) ?_ | refine nk_sw_i 4 (by decide) (by decide) ?_ | refine nk_sw_i 5 (by decide) (by decide) ?_ | fail)
    | fail
  all_goals first
    | (refine lf hq ?_
       unfold f_tear
       repeat' split
       all_goals first
         | rfl
         | (exfalso; simp only [Int32.lt_iff_toInt_lt, Int32.le_iff_toInt_le, li_m9, li_m4, li_m3, li_m2, li_m1, li_0, li_1, li_2, li_3, li_4, li_5, li_6, li_7, li_9, li_10, li_12, li_15, li_16, li_20, li_40, li_99, li_999, show fC0 2 = 0 from rfl, show fC0 3 = 0 from rfl, show fC0 26 = 0 from rfl, show fC0 27 = 0 from rfl, show fC0 28 = 0 from rfl, show fC0 29 = 0 from rfl, show Int32.ofNat 6 = 6 from rfl, show Int32.ofNat 4 = 4 from rfl, show (0 : Int32) - 1 = -1 from rfl, show iR0 18 = (fun _ => 0) from rfl] at *; omega))
    | (exfalso; simp only [Int32.lt_iff_toInt_lt, Int32.le_iff_toInt_le, li_m9, li_m4, li_m3, li_m2, li_m1, li_0, li_1, li_2, li_3, li_4, li_5, li_6, li_7, li_9, li_10, li_12, li_15, li_16, li_20, li_40, li_99, li_999, show fC0 2 = 0 from rfl, show fC0 3 = 0 from rfl, show fC0 26 = 0 from rfl, show fC0 27 = 0 from rfl, show fC0 28 = 0 from rfl, show fC0 29 = 0 from rfl, show Int32.ofNat 6 = 6 from rfl, show Int32.ofNat 4 = 4 from rfl, show (0 : Int32) - 1 = -1 from rfl, show iR0 18 = (fun _ => 0) from rfl] at *; omega)

set_option maxRecDepth 100000 in
set_option maxHeartbeats 40000000 in
theorem pC_copy (r i to j n : Int32) (Q : nk_Q) (hq : ∀ h : nk_H, Q (some (.int (f_copy r i to j n))) h) : ev_X5_copy [.ref 0, .int r, .int i, .int to, .int j, .int n] hC0 Q := by
  all_goals rcases sp_0_5 r with rfl | rfl | rfl | rfl | rfl | rfl | hs_r
  all_goals rcases sp_0_5 to with rfl | rfl | rfl | rfl | rfl | rfl | hs_to
  all_goals repeat' first
    | refine nk_s ?_
    | refine nk_br.t (by decide) ?_
    | refine nk_br.f (by decide) ?_
    | (refine nk_br.mk (fun _ => ?_) (fun _ => ?_) <;> try (exfalso; simp only [Int32.lt_iff_toInt_lt, Int32.le_iff_toInt_le, li_m9, li_m4, li_m3, li_m2, li_m1, li_0, li_1, li_2, li_3, li_4, li_5, li_6, li_7, li_9, li_10, li_12, li_15, li_16, li_20, li_40, li_99, li_999, show fC0 2 = 0 from rfl, show fC0 3 = 0 from rfl, show fC0 26 = 0 from rfl, show fC0 27 = 0 from rfl, show fC0 28 = 0 from rfl, show fC0 29 = 0 from rfl, show Int32.ofNat 6 = 6 from rfl, show Int32.ofNat 4 = 4 from rfl, show (0 : Int32) - 1 = -1 from rfl, show iR0 18 = (fun _ => 0) from rfl] at *; omega; done))
    | refine nk_bo0 ?_
    | refine nk_bo1 ?_
    | refine And.intro (by unfold vp_in; decide) ?_
    | (fail; refine nk_swx ?_; first | refine nk_sw_d (by decide) (by decide) ?_ | refine nk_sw_i 0 (by decide) (by decide) ?_ | refine nk_sw_i 1 (by decide) (by decide) ?_ | refine nk_sw_i 2 (by decide) (by decide) ?_ | refine nk_sw_i 3 (by decide) (by decide) ?_ | refine nk_sw_i 4 (by decide) (by decide) ?_ | refine nk_sw_i 5 (by decide) (by decide) ?_ | fail)
    | fail
  all_goals first
    | (refine lf hq ?_
       unfold f_copy
       repeat' split
       all_goals first
         | rfl
         | (exfalso; simp only [Int32.lt_iff_toInt_lt, Int32.le_iff_toInt_le, li_m9, li_m4, li_m3, li_m2, li_m1, li_0, li_1, li_2, li_3, li_4, li_5, li_6, li_7, li_9, li_10, li_12, li_15, li_16, li_20, li_40, li_99, li_999, show fC0 2 = 0 from rfl, show fC0 3 = 0 from rfl, show fC0 26 = 0 from rfl, show fC0 27 = 0 from rfl, show fC0 28 = 0 from rfl, show fC0 29 = 0 from rfl, show Int32.ofNat 6 = 6 from rfl, show Int32.ofNat 4 = 4 from rfl, show (0 : Int32) - 1 = -1 from rfl, show iR0 18 = (fun _ => 0) from rfl] at *; omega))
    | (exfalso; simp only [Int32.lt_iff_toInt_lt, Int32.le_iff_toInt_le, li_m9, li_m4, li_m3, li_m2, li_m1, li_0, li_1, li_2, li_3, li_4, li_5, li_6, li_7, li_9, li_10, li_12, li_15, li_16, li_20, li_40, li_99, li_999, show fC0 2 = 0 from rfl, show fC0 3 = 0 from rfl, show fC0 26 = 0 from rfl, show fC0 27 = 0 from rfl, show fC0 28 = 0 from rfl, show fC0 29 = 0 from rfl, show Int32.ofNat 6 = 6 from rfl, show Int32.ofNat 4 = 4 from rfl, show (0 : Int32) - 1 = -1 from rfl, show iR0 18 = (fun _ => 0) from rfl] at *; omega)

set_option maxRecDepth 100000 in
set_option maxHeartbeats 40000000 in
theorem pC_mean (r : Int32) (Q : nk_Q) (hq : ∀ h : nk_H, Q (some (.int (f_mean r))) h) : ev_X5_mean [.ref 0, .int r] hC0 Q := by
  all_goals rcases sp_0_5 r with rfl | rfl | rfl | rfl | rfl | rfl | hs_r
  all_goals repeat' first
    | refine nk_s ?_
    | refine nk_br.t (by decide) ?_
    | refine nk_br.f (by decide) ?_
    | (refine nk_br.mk (fun _ => ?_) (fun _ => ?_) <;> try (exfalso; simp only [Int32.lt_iff_toInt_lt, Int32.le_iff_toInt_le, li_m9, li_m4, li_m3, li_m2, li_m1, li_0, li_1, li_2, li_3, li_4, li_5, li_6, li_7, li_9, li_10, li_12, li_15, li_16, li_20, li_40, li_99, li_999, show fC0 2 = 0 from rfl, show fC0 3 = 0 from rfl, show fC0 26 = 0 from rfl, show fC0 27 = 0 from rfl, show fC0 28 = 0 from rfl, show fC0 29 = 0 from rfl, show Int32.ofNat 6 = 6 from rfl, show Int32.ofNat 4 = 4 from rfl, show (0 : Int32) - 1 = -1 from rfl, show iR0 18 = (fun _ => 0) from rfl] at *; omega; done))
    | refine nk_bo0 ?_
    | refine nk_bo1 ?_
    | refine And.intro (by unfold vp_in; decide) ?_
    | (fail; refine nk_swx ?_; first | refine nk_sw_d (by decide) (by decide) ?_ | refine nk_sw_i 0 (by decide) (by decide) ?_ | refine nk_sw_i 1 (by decide) (by decide) ?_ | refine nk_sw_i 2 (by decide) (by decide) ?_ | refine nk_sw_i 3 (by decide) (by decide) ?_ | refine nk_sw_i 4 (by decide) (by decide) ?_ | refine nk_sw_i 5 (by decide) (by decide) ?_ | fail)
    | fail
  all_goals first
    | (refine lf hq ?_
       unfold f_mean
       repeat' split
       all_goals first
         | rfl
         | (exfalso; simp only [Int32.lt_iff_toInt_lt, Int32.le_iff_toInt_le, li_m9, li_m4, li_m3, li_m2, li_m1, li_0, li_1, li_2, li_3, li_4, li_5, li_6, li_7, li_9, li_10, li_12, li_15, li_16, li_20, li_40, li_99, li_999, show fC0 2 = 0 from rfl, show fC0 3 = 0 from rfl, show fC0 26 = 0 from rfl, show fC0 27 = 0 from rfl, show fC0 28 = 0 from rfl, show fC0 29 = 0 from rfl, show Int32.ofNat 6 = 6 from rfl, show Int32.ofNat 4 = 4 from rfl, show (0 : Int32) - 1 = -1 from rfl, show iR0 18 = (fun _ => 0) from rfl] at *; omega))
    | (exfalso; simp only [Int32.lt_iff_toInt_lt, Int32.le_iff_toInt_le, li_m9, li_m4, li_m3, li_m2, li_m1, li_0, li_1, li_2, li_3, li_4, li_5, li_6, li_7, li_9, li_10, li_12, li_15, li_16, li_20, li_40, li_99, li_999, show fC0 2 = 0 from rfl, show fC0 3 = 0 from rfl, show fC0 26 = 0 from rfl, show fC0 27 = 0 from rfl, show fC0 28 = 0 from rfl, show fC0 29 = 0 from rfl, show Int32.ofNat 6 = 6 from rfl, show Int32.ofNat 4 = 4 from rfl, show (0 : Int32) - 1 = -1 from rfl, show iR0 18 = (fun _ => 0) from rfl] at *; omega)

set_option maxRecDepth 100000 in
set_option maxHeartbeats 40000000 in
theorem pC_text (r n : Int32) (Q : nk_Q) (hq : ∀ h : nk_H, Q (some (.int (f_text r n))) h) : ev_X5_text [.ref 0, .int r, .int n] hC0 Q := by
  all_goals rcases sp_0_3 r with rfl | rfl | rfl | rfl | hs_r
  all_goals repeat' first
    | refine eb_begin 41 42 _ _ _ _ _ _ (by decide) rfl rfl (fun h => ?_)
    | refine eb_begin 43 44 _ _ _ _ _ _ (by decide) rfl rfl (fun h => ?_)
    | refine eb_begin 45 46 _ _ _ _ _ _ (by decide) rfl rfl (fun h => ?_)
    | refine eb_begin 47 48 _ _ _ _ _ _ (by decide) rfl rfl (fun h => ?_)
    | refine nk_s ?_
    | refine nk_br.t (by decide) ?_
    | refine nk_br.f (by decide) ?_
    | (refine nk_br.mk (fun _ => ?_) (fun _ => ?_) <;> try (exfalso; simp only [Int32.lt_iff_toInt_lt, Int32.le_iff_toInt_le, li_m9, li_m4, li_m3, li_m2, li_m1, li_0, li_1, li_2, li_3, li_4, li_5, li_6, li_7, li_9, li_10, li_12, li_15, li_16, li_20, li_40, li_99, li_999, show fC0 2 = 0 from rfl, show fC0 3 = 0 from rfl, show fC0 26 = 0 from rfl, show fC0 27 = 0 from rfl, show fC0 28 = 0 from rfl, show fC0 29 = 0 from rfl, show Int32.ofNat 6 = 6 from rfl, show Int32.ofNat 4 = 4 from rfl, show (0 : Int32) - 1 = -1 from rfl, show iR0 18 = (fun _ => 0) from rfl] at *; omega; done))
    | refine nk_bo0 ?_
    | refine nk_bo1 ?_
    | refine And.intro (by unfold vp_in; decide) ?_
    | (fail; refine nk_swx ?_; first | refine nk_sw_d (by decide) (by decide) ?_ | refine nk_sw_i 0 (by decide) (by decide) ?_ | refine nk_sw_i 1 (by decide) (by decide) ?_ | refine nk_sw_i 2 (by decide) (by decide) ?_ | refine nk_sw_i 3 (by decide) (by decide) ?_ | refine nk_sw_i 4 (by decide) (by decide) ?_ | refine nk_sw_i 5 (by decide) (by decide) ?_ | fail)
    | fail
  all_goals first
    | (refine lf hq ?_
       unfold f_text
       repeat' split
       all_goals first
         | rfl
         | (exfalso; simp only [Int32.lt_iff_toInt_lt, Int32.le_iff_toInt_le, li_m9, li_m4, li_m3, li_m2, li_m1, li_0, li_1, li_2, li_3, li_4, li_5, li_6, li_7, li_9, li_10, li_12, li_15, li_16, li_20, li_40, li_99, li_999, show fC0 2 = 0 from rfl, show fC0 3 = 0 from rfl, show fC0 26 = 0 from rfl, show fC0 27 = 0 from rfl, show fC0 28 = 0 from rfl, show fC0 29 = 0 from rfl, show Int32.ofNat 6 = 6 from rfl, show Int32.ofNat 4 = 4 from rfl, show (0 : Int32) - 1 = -1 from rfl, show iR0 18 = (fun _ => 0) from rfl] at *; omega))
    | (exfalso; simp only [Int32.lt_iff_toInt_lt, Int32.le_iff_toInt_le, li_m9, li_m4, li_m3, li_m2, li_m1, li_0, li_1, li_2, li_3, li_4, li_5, li_6, li_7, li_9, li_10, li_12, li_15, li_16, li_20, li_40, li_99, li_999, show fC0 2 = 0 from rfl, show fC0 3 = 0 from rfl, show fC0 26 = 0 from rfl, show fC0 27 = 0 from rfl, show fC0 28 = 0 from rfl, show fC0 29 = 0 from rfl, show Int32.ofNat 6 = 6 from rfl, show Int32.ofNat 4 = 4 from rfl, show (0 : Int32) - 1 = -1 from rfl, show iR0 18 = (fun _ => 0) from rfl] at *; omega)

set_option maxRecDepth 100000 in
set_option maxHeartbeats 40000000 in
theorem pC_put (r i v : Int32) (Q : nk_Q) (hq : ∀ h : nk_H, Q (some (.int (f_put r i v))) h) : ev_X5_put [.ref 0, .int r, .int i, .int v] hC0 Q := by
  all_goals rcases sp_0_3 r with rfl | rfl | rfl | rfl | hs_r
  all_goals repeat' first
    | refine nk_s ?_
    | refine nk_br.t (by decide) ?_
    | refine nk_br.f (by decide) ?_
    | (refine nk_br.mk (fun _ => ?_) (fun _ => ?_) <;> try (exfalso; simp only [Int32.lt_iff_toInt_lt, Int32.le_iff_toInt_le, li_m9, li_m4, li_m3, li_m2, li_m1, li_0, li_1, li_2, li_3, li_4, li_5, li_6, li_7, li_9, li_10, li_12, li_15, li_16, li_20, li_40, li_99, li_999, show fC0 2 = 0 from rfl, show fC0 3 = 0 from rfl, show fC0 26 = 0 from rfl, show fC0 27 = 0 from rfl, show fC0 28 = 0 from rfl, show fC0 29 = 0 from rfl, show Int32.ofNat 6 = 6 from rfl, show Int32.ofNat 4 = 4 from rfl, show (0 : Int32) - 1 = -1 from rfl, show iR0 18 = (fun _ => 0) from rfl] at *; omega; done))
    | refine nk_bo0 ?_
    | refine nk_bo1 ?_
    | refine And.intro (by unfold vp_in; decide) ?_
    | (fail; refine nk_swx ?_; first | refine nk_sw_d (by decide) (by decide) ?_ | refine nk_sw_i 0 (by decide) (by decide) ?_ | refine nk_sw_i 1 (by decide) (by decide) ?_ | refine nk_sw_i 2 (by decide) (by decide) ?_ | refine nk_sw_i 3 (by decide) (by decide) ?_ | refine nk_sw_i 4 (by decide) (by decide) ?_ | refine nk_sw_i 5 (by decide) (by decide) ?_ | fail)
    | fail
  all_goals first
    | (refine lf hq ?_
       unfold f_put
       repeat' split
       all_goals first
         | rfl
         | (exfalso; simp only [Int32.lt_iff_toInt_lt, Int32.le_iff_toInt_le, li_m9, li_m4, li_m3, li_m2, li_m1, li_0, li_1, li_2, li_3, li_4, li_5, li_6, li_7, li_9, li_10, li_12, li_15, li_16, li_20, li_40, li_99, li_999, show fC0 2 = 0 from rfl, show fC0 3 = 0 from rfl, show fC0 26 = 0 from rfl, show fC0 27 = 0 from rfl, show fC0 28 = 0 from rfl, show fC0 29 = 0 from rfl, show Int32.ofNat 6 = 6 from rfl, show Int32.ofNat 4 = 4 from rfl, show (0 : Int32) - 1 = -1 from rfl, show iR0 18 = (fun _ => 0) from rfl] at *; omega))
    | (exfalso; simp only [Int32.lt_iff_toInt_lt, Int32.le_iff_toInt_le, li_m9, li_m4, li_m3, li_m2, li_m1, li_0, li_1, li_2, li_3, li_4, li_5, li_6, li_7, li_9, li_10, li_12, li_15, li_16, li_20, li_40, li_99, li_999, show fC0 2 = 0 from rfl, show fC0 3 = 0 from rfl, show fC0 26 = 0 from rfl, show fC0 27 = 0 from rfl, show fC0 28 = 0 from rfl, show fC0 29 = 0 from rfl, show Int32.ofNat 6 = 6 from rfl, show Int32.ofNat 4 = 4 from rfl, show (0 : Int32) - 1 = -1 from rfl, show iR0 18 = (fun _ => 0) from rfl] at *; omega)

set_option maxRecDepth 100000 in
set_option maxHeartbeats 40000000 in
theorem pC_stuff (a b c d : Int32) (Q : nk_Q) (hq : ∀ h : nk_H, Q (some (.int (f_stuff a b c d))) h) : ev_X5_stuff [.ref 0, .int a, .int b, .int c, .int d] hC0 Q := by
  all_goals repeat' first
    | refine nk_s ?_
    | refine nk_br.t (by decide) ?_
    | refine nk_br.f (by decide) ?_
    | (refine nk_br.mk (fun _ => ?_) (fun _ => ?_) <;> try (exfalso; simp only [Int32.lt_iff_toInt_lt, Int32.le_iff_toInt_le, li_m9, li_m4, li_m3, li_m2, li_m1, li_0, li_1, li_2, li_3, li_4, li_5, li_6, li_7, li_9, li_10, li_12, li_15, li_16, li_20, li_40, li_99, li_999, show fC0 2 = 0 from rfl, show fC0 3 = 0 from rfl, show fC0 26 = 0 from rfl, show fC0 27 = 0 from rfl, show fC0 28 = 0 from rfl, show fC0 29 = 0 from rfl, show Int32.ofNat 6 = 6 from rfl, show Int32.ofNat 4 = 4 from rfl, show (0 : Int32) - 1 = -1 from rfl, show iR0 18 = (fun _ => 0) from rfl] at *; omega; done))
    | refine nk_bo0 ?_
    | refine nk_bo1 ?_
    | refine And.intro (by unfold vp_in; decide) ?_
    | (fail; refine nk_swx ?_; first | refine nk_sw_d (by decide) (by decide) ?_ | refine nk_sw_i 0 (by decide) (by decide) ?_ | refine nk_sw_i 1 (by decide) (by decide) ?_ | refine nk_sw_i 2 (by decide) (by decide) ?_ | refine nk_sw_i 3 (by decide) (by decide) ?_ | refine nk_sw_i 4 (by decide) (by decide) ?_ | refine nk_sw_i 5 (by decide) (by decide) ?_ | fail)
    | fail
  all_goals first
    | (refine lf hq ?_
       unfold f_stuff
       repeat' split
       all_goals first
         | rfl
         | (exfalso; simp only [Int32.lt_iff_toInt_lt, Int32.le_iff_toInt_le, li_m9, li_m4, li_m3, li_m2, li_m1, li_0, li_1, li_2, li_3, li_4, li_5, li_6, li_7, li_9, li_10, li_12, li_15, li_16, li_20, li_40, li_99, li_999, show fC0 2 = 0 from rfl, show fC0 3 = 0 from rfl, show fC0 26 = 0 from rfl, show fC0 27 = 0 from rfl, show fC0 28 = 0 from rfl, show fC0 29 = 0 from rfl, show Int32.ofNat 6 = 6 from rfl, show Int32.ofNat 4 = 4 from rfl, show (0 : Int32) - 1 = -1 from rfl, show iR0 18 = (fun _ => 0) from rfl] at *; omega))
    | (exfalso; simp only [Int32.lt_iff_toInt_lt, Int32.le_iff_toInt_le, li_m9, li_m4, li_m3, li_m2, li_m1, li_0, li_1, li_2, li_3, li_4, li_5, li_6, li_7, li_9, li_10, li_12, li_15, li_16, li_20, li_40, li_99, li_999, show fC0 2 = 0 from rfl, show fC0 3 = 0 from rfl, show fC0 26 = 0 from rfl, show fC0 27 = 0 from rfl, show fC0 28 = 0 from rfl, show fC0 29 = 0 from rfl, show Int32.ofNat 6 = 6 from rfl, show Int32.ofNat 4 = 4 from rfl, show (0 : Int32) - 1 = -1 from rfl, show iR0 18 = (fun _ => 0) from rfl] at *; omega)

set_option maxRecDepth 100000 in
set_option maxHeartbeats 40000000 in
theorem pC_stuffs (r : Int32) (Q : nk_Q) (hq : ∀ h : nk_H, Q (some (.int (f_stuffs r))) h) : ev_X5_stuffs [.ref 0, .int r] hC0 Q := by
  all_goals rcases sp_0_5 r with rfl | rfl | rfl | rfl | rfl | rfl | hs_r
  all_goals repeat' first
    | refine nk_s ?_
    | refine nk_br.t (by decide) ?_
    | refine nk_br.f (by decide) ?_
    | (refine nk_br.mk (fun _ => ?_) (fun _ => ?_) <;> try (exfalso; simp only [Int32.lt_iff_toInt_lt, Int32.le_iff_toInt_le, li_m9, li_m4, li_m3, li_m2, li_m1, li_0, li_1, li_2, li_3, li_4, li_5, li_6, li_7, li_9, li_10, li_12, li_15, li_16, li_20, li_40, li_99, li_999, show fC0 2 = 0 from rfl, show fC0 3 = 0 from rfl, show fC0 26 = 0 from rfl, show fC0 27 = 0 from rfl, show fC0 28 = 0 from rfl, show fC0 29 = 0 from rfl, show Int32.ofNat 6 = 6 from rfl, show Int32.ofNat 4 = 4 from rfl, show (0 : Int32) - 1 = -1 from rfl, show iR0 18 = (fun _ => 0) from rfl] at *; omega; done))
    | refine nk_bo0 ?_
    | refine nk_bo1 ?_
    | refine And.intro (by unfold vp_in; decide) ?_
    | (fail; refine nk_swx ?_; first | refine nk_sw_d (by decide) (by decide) ?_ | refine nk_sw_i 0 (by decide) (by decide) ?_ | refine nk_sw_i 1 (by decide) (by decide) ?_ | refine nk_sw_i 2 (by decide) (by decide) ?_ | refine nk_sw_i 3 (by decide) (by decide) ?_ | refine nk_sw_i 4 (by decide) (by decide) ?_ | refine nk_sw_i 5 (by decide) (by decide) ?_ | fail)
    | fail
  all_goals first
    | (refine lf hq ?_
       unfold f_stuffs
       repeat' split
       all_goals first
         | rfl
         | (exfalso; simp only [Int32.lt_iff_toInt_lt, Int32.le_iff_toInt_le, li_m9, li_m4, li_m3, li_m2, li_m1, li_0, li_1, li_2, li_3, li_4, li_5, li_6, li_7, li_9, li_10, li_12, li_15, li_16, li_20, li_40, li_99, li_999, show fC0 2 = 0 from rfl, show fC0 3 = 0 from rfl, show fC0 26 = 0 from rfl, show fC0 27 = 0 from rfl, show fC0 28 = 0 from rfl, show fC0 29 = 0 from rfl, show Int32.ofNat 6 = 6 from rfl, show Int32.ofNat 4 = 4 from rfl, show (0 : Int32) - 1 = -1 from rfl, show iR0 18 = (fun _ => 0) from rfl] at *; omega))
    | (exfalso; simp only [Int32.lt_iff_toInt_lt, Int32.le_iff_toInt_le, li_m9, li_m4, li_m3, li_m2, li_m1, li_0, li_1, li_2, li_3, li_4, li_5, li_6, li_7, li_9, li_10, li_12, li_15, li_16, li_20, li_40, li_99, li_999, show fC0 2 = 0 from rfl, show fC0 3 = 0 from rfl, show fC0 26 = 0 from rfl, show fC0 27 = 0 from rfl, show fC0 28 = 0 from rfl, show fC0 29 = 0 from rfl, show Int32.ofNat 6 = 6 from rfl, show Int32.ofNat 4 = 4 from rfl, show (0 : Int32) - 1 = -1 from rfl, show iR0 18 = (fun _ => 0) from rfl] at *; omega)

set_option maxRecDepth 100000 in
set_option maxHeartbeats 40000000 in
theorem pC_debt (a b : Int32) (Q : nk_Q) (hq : ∀ h : nk_H, Q (some (.int (f_debt a b))) h) : ev_X5_debt [.ref 0, .int a, .int b] hC0 Q := by
  all_goals repeat' first
    | refine nk_s ?_
    | refine nk_br.t (by decide) ?_
    | refine nk_br.f (by decide) ?_
    | (refine nk_br.mk (fun _ => ?_) (fun _ => ?_) <;> try (exfalso; simp only [Int32.lt_iff_toInt_lt, Int32.le_iff_toInt_le, li_m9, li_m4, li_m3, li_m2, li_m1, li_0, li_1, li_2, li_3, li_4, li_5, li_6, li_7, li_9, li_10, li_12, li_15, li_16, li_20, li_40, li_99, li_999, show fC0 2 = 0 from rfl, show fC0 3 = 0 from rfl, show fC0 26 = 0 from rfl, show fC0 27 = 0 from rfl, show fC0 28 = 0 from rfl, show fC0 29 = 0 from rfl, show Int32.ofNat 6 = 6 from rfl, show Int32.ofNat 4 = 4 from rfl, show (0 : Int32) - 1 = -1 from rfl, show iR0 18 = (fun _ => 0) from rfl] at *; omega; done))
    | refine nk_bo0 ?_
    | refine nk_bo1 ?_
    | refine And.intro (by unfold vp_in; decide) ?_
    | (fail; refine nk_swx ?_; first | refine nk_sw_d (by decide) (by decide) ?_ | refine nk_sw_i 0 (by decide) (by decide) ?_ | refine nk_sw_i 1 (by decide) (by decide) ?_ | refine nk_sw_i 2 (by decide) (by decide) ?_ | refine nk_sw_i 3 (by decide) (by decide) ?_ | refine nk_sw_i 4 (by decide) (by decide) ?_ | refine nk_sw_i 5 (by decide) (by decide) ?_ | fail)
    | fail
  all_goals first
    | (refine lf hq ?_
       unfold f_debt
       repeat' split
       all_goals first
         | rfl
         | (exfalso; simp only [Int32.lt_iff_toInt_lt, Int32.le_iff_toInt_le, li_m9, li_m4, li_m3, li_m2, li_m1, li_0, li_1, li_2, li_3, li_4, li_5, li_6, li_7, li_9, li_10, li_12, li_15, li_16, li_20, li_40, li_99, li_999, show fC0 2 = 0 from rfl, show fC0 3 = 0 from rfl, show fC0 26 = 0 from rfl, show fC0 27 = 0 from rfl, show fC0 28 = 0 from rfl, show fC0 29 = 0 from rfl, show Int32.ofNat 6 = 6 from rfl, show Int32.ofNat 4 = 4 from rfl, show (0 : Int32) - 1 = -1 from rfl, show iR0 18 = (fun _ => 0) from rfl] at *; omega))
    | (exfalso; simp only [Int32.lt_iff_toInt_lt, Int32.le_iff_toInt_le, li_m9, li_m4, li_m3, li_m2, li_m1, li_0, li_1, li_2, li_3, li_4, li_5, li_6, li_7, li_9, li_10, li_12, li_15, li_16, li_20, li_40, li_99, li_999, show fC0 2 = 0 from rfl, show fC0 3 = 0 from rfl, show fC0 26 = 0 from rfl, show fC0 27 = 0 from rfl, show fC0 28 = 0 from rfl, show fC0 29 = 0 from rfl, show Int32.ofNat 6 = 6 from rfl, show Int32.ofNat 4 = 4 from rfl, show (0 : Int32) - 1 = -1 from rfl, show iR0 18 = (fun _ => 0) from rfl] at *; omega)

set_option maxRecDepth 100000 in
set_option maxHeartbeats 40000000 in
theorem pC_making (a b c d e f g : Int32) (Q : nk_Q) (hq : ∀ h : nk_H, Q (some (.int (f_making a b c d e f g))) h) : ev_X5_making [.ref 0, .int a, .int b, .int c, .int d, .int e, .int f, .int g] hC0 Q := by
  all_goals repeat' first
    | refine nk_s ?_
    | refine nk_br.t (by decide) ?_
    | refine nk_br.f (by decide) ?_
    | (refine nk_br.mk (fun _ => ?_) (fun _ => ?_) <;> try (exfalso; simp only [Int32.lt_iff_toInt_lt, Int32.le_iff_toInt_le, li_m9, li_m4, li_m3, li_m2, li_m1, li_0, li_1, li_2, li_3, li_4, li_5, li_6, li_7, li_9, li_10, li_12, li_15, li_16, li_20, li_40, li_99, li_999, show fC0 2 = 0 from rfl, show fC0 3 = 0 from rfl, show fC0 26 = 0 from rfl, show fC0 27 = 0 from rfl, show fC0 28 = 0 from rfl, show fC0 29 = 0 from rfl, show Int32.ofNat 6 = 6 from rfl, show Int32.ofNat 4 = 4 from rfl, show (0 : Int32) - 1 = -1 from rfl, show iR0 18 = (fun _ => 0) from rfl] at *; omega; done))
    | refine nk_bo0 ?_
    | refine nk_bo1 ?_
    | refine And.intro (by unfold vp_in; decide) ?_
    | (fail; refine nk_swx ?_; first | refine nk_sw_d (by decide) (by decide) ?_ | refine nk_sw_i 0 (by decide) (by decide) ?_ | refine nk_sw_i 1 (by decide) (by decide) ?_ | refine nk_sw_i 2 (by decide) (by decide) ?_ | refine nk_sw_i 3 (by decide) (by decide) ?_ | refine nk_sw_i 4 (by decide) (by decide) ?_ | refine nk_sw_i 5 (by decide) (by decide) ?_ | fail)
    | fail
  all_goals first
    | (refine lf hq ?_
       unfold f_making
       repeat' split
       all_goals first
         | rfl
         | (exfalso; simp only [Int32.lt_iff_toInt_lt, Int32.le_iff_toInt_le, li_m9, li_m4, li_m3, li_m2, li_m1, li_0, li_1, li_2, li_3, li_4, li_5, li_6, li_7, li_9, li_10, li_12, li_15, li_16, li_20, li_40, li_99, li_999, show fC0 2 = 0 from rfl, show fC0 3 = 0 from rfl, show fC0 26 = 0 from rfl, show fC0 27 = 0 from rfl, show fC0 28 = 0 from rfl, show fC0 29 = 0 from rfl, show Int32.ofNat 6 = 6 from rfl, show Int32.ofNat 4 = 4 from rfl, show (0 : Int32) - 1 = -1 from rfl, show iR0 18 = (fun _ => 0) from rfl] at *; omega))
    | (exfalso; simp only [Int32.lt_iff_toInt_lt, Int32.le_iff_toInt_le, li_m9, li_m4, li_m3, li_m2, li_m1, li_0, li_1, li_2, li_3, li_4, li_5, li_6, li_7, li_9, li_10, li_12, li_15, li_16, li_20, li_40, li_99, li_999, show fC0 2 = 0 from rfl, show fC0 3 = 0 from rfl, show fC0 26 = 0 from rfl, show fC0 27 = 0 from rfl, show fC0 28 = 0 from rfl, show fC0 29 = 0 from rfl, show Int32.ofNat 6 = 6 from rfl, show Int32.ofNat 4 = 4 from rfl, show (0 : Int32) - 1 = -1 from rfl, show iR0 18 = (fun _ => 0) from rfl] at *; omega)

set_option maxRecDepth 100000 in
set_option maxHeartbeats 40000000 in
theorem pC_about (a b : Int32) (Q : nk_Q) (hq : ∀ h : nk_H, Q (some (.int (f_about a b))) h) : ev_X5_about [.ref 0, .int a, .int b] hC0 Q := by
  all_goals repeat' first
    | refine nk_s ?_
    | refine nk_br.t (by decide) ?_
    | refine nk_br.f (by decide) ?_
    | (refine nk_br.mk (fun _ => ?_) (fun _ => ?_) <;> try (exfalso; simp only [Int32.lt_iff_toInt_lt, Int32.le_iff_toInt_le, li_m9, li_m4, li_m3, li_m2, li_m1, li_0, li_1, li_2, li_3, li_4, li_5, li_6, li_7, li_9, li_10, li_12, li_15, li_16, li_20, li_40, li_99, li_999, show fC0 2 = 0 from rfl, show fC0 3 = 0 from rfl, show fC0 26 = 0 from rfl, show fC0 27 = 0 from rfl, show fC0 28 = 0 from rfl, show fC0 29 = 0 from rfl, show Int32.ofNat 6 = 6 from rfl, show Int32.ofNat 4 = 4 from rfl, show (0 : Int32) - 1 = -1 from rfl, show iR0 18 = (fun _ => 0) from rfl] at *; omega; done))
    | refine nk_bo0 ?_
    | refine nk_bo1 ?_
    | refine And.intro (by unfold vp_in; decide) ?_
    | (fail; refine nk_swx ?_; first | refine nk_sw_d (by decide) (by decide) ?_ | refine nk_sw_i 0 (by decide) (by decide) ?_ | refine nk_sw_i 1 (by decide) (by decide) ?_ | refine nk_sw_i 2 (by decide) (by decide) ?_ | refine nk_sw_i 3 (by decide) (by decide) ?_ | refine nk_sw_i 4 (by decide) (by decide) ?_ | refine nk_sw_i 5 (by decide) (by decide) ?_ | fail)
    | fail
  all_goals first
    | (refine lf hq ?_
       unfold f_about
       repeat' split
       all_goals first
         | rfl
         | (exfalso; simp only [Int32.lt_iff_toInt_lt, Int32.le_iff_toInt_le, li_m9, li_m4, li_m3, li_m2, li_m1, li_0, li_1, li_2, li_3, li_4, li_5, li_6, li_7, li_9, li_10, li_12, li_15, li_16, li_20, li_40, li_99, li_999, show fC0 2 = 0 from rfl, show fC0 3 = 0 from rfl, show fC0 26 = 0 from rfl, show fC0 27 = 0 from rfl, show fC0 28 = 0 from rfl, show fC0 29 = 0 from rfl, show Int32.ofNat 6 = 6 from rfl, show Int32.ofNat 4 = 4 from rfl, show (0 : Int32) - 1 = -1 from rfl, show iR0 18 = (fun _ => 0) from rfl] at *; omega))
    | (exfalso; simp only [Int32.lt_iff_toInt_lt, Int32.le_iff_toInt_le, li_m9, li_m4, li_m3, li_m2, li_m1, li_0, li_1, li_2, li_3, li_4, li_5, li_6, li_7, li_9, li_10, li_12, li_15, li_16, li_20, li_40, li_99, li_999, show fC0 2 = 0 from rfl, show fC0 3 = 0 from rfl, show fC0 26 = 0 from rfl, show fC0 27 = 0 from rfl, show fC0 28 = 0 from rfl, show fC0 29 = 0 from rfl, show Int32.ofNat 6 = 6 from rfl, show Int32.ofNat 4 = 4 from rfl, show (0 : Int32) - 1 = -1 from rfl, show iR0 18 = (fun _ => 0) from rfl] at *; omega)

set_option maxRecDepth 100000 in
set_option maxHeartbeats 40000000 in
theorem pC_told (a b : Int32) (Q : nk_Q) (hq : ∀ h : nk_H, Q (some (.int (f_told a b))) h) : ev_X5_told [.ref 0, .int a, .int b] hC0 Q := by
  all_goals repeat' first
    | refine nk_s ?_
    | refine nk_br.t (by decide) ?_
    | refine nk_br.f (by decide) ?_
    | (refine nk_br.mk (fun _ => ?_) (fun _ => ?_) <;> try (exfalso; simp only [Int32.lt_iff_toInt_lt, Int32.le_iff_toInt_le, li_m9, li_m4, li_m3, li_m2, li_m1, li_0, li_1, li_2, li_3, li_4, li_5, li_6, li_7, li_9, li_10, li_12, li_15, li_16, li_20, li_40, li_99, li_999, show fC0 2 = 0 from rfl, show fC0 3 = 0 from rfl, show fC0 26 = 0 from rfl, show fC0 27 = 0 from rfl, show fC0 28 = 0 from rfl, show fC0 29 = 0 from rfl, show Int32.ofNat 6 = 6 from rfl, show Int32.ofNat 4 = 4 from rfl, show (0 : Int32) - 1 = -1 from rfl, show iR0 18 = (fun _ => 0) from rfl] at *; omega; done))
    | refine nk_bo0 ?_
    | refine nk_bo1 ?_
    | refine And.intro (by unfold vp_in; decide) ?_
    | (fail; refine nk_swx ?_; first | refine nk_sw_d (by decide) (by decide) ?_ | refine nk_sw_i 0 (by decide) (by decide) ?_ | refine nk_sw_i 1 (by decide) (by decide) ?_ | refine nk_sw_i 2 (by decide) (by decide) ?_ | refine nk_sw_i 3 (by decide) (by decide) ?_ | refine nk_sw_i 4 (by decide) (by decide) ?_ | refine nk_sw_i 5 (by decide) (by decide) ?_ | fail)
    | fail
  all_goals first
    | (refine lf hq ?_
       unfold f_told
       repeat' split
       all_goals first
         | rfl
         | (exfalso; simp only [Int32.lt_iff_toInt_lt, Int32.le_iff_toInt_le, li_m9, li_m4, li_m3, li_m2, li_m1, li_0, li_1, li_2, li_3, li_4, li_5, li_6, li_7, li_9, li_10, li_12, li_15, li_16, li_20, li_40, li_99, li_999, show fC0 2 = 0 from rfl, show fC0 3 = 0 from rfl, show fC0 26 = 0 from rfl, show fC0 27 = 0 from rfl, show fC0 28 = 0 from rfl, show fC0 29 = 0 from rfl, show Int32.ofNat 6 = 6 from rfl, show Int32.ofNat 4 = 4 from rfl, show (0 : Int32) - 1 = -1 from rfl, show iR0 18 = (fun _ => 0) from rfl] at *; omega))
    | (exfalso; simp only [Int32.lt_iff_toInt_lt, Int32.le_iff_toInt_le, li_m9, li_m4, li_m3, li_m2, li_m1, li_0, li_1, li_2, li_3, li_4, li_5, li_6, li_7, li_9, li_10, li_12, li_15, li_16, li_20, li_40, li_99, li_999, show fC0 2 = 0 from rfl, show fC0 3 = 0 from rfl, show fC0 26 = 0 from rfl, show fC0 27 = 0 from rfl, show fC0 28 = 0 from rfl, show fC0 29 = 0 from rfl, show Int32.ofNat 6 = 6 from rfl, show Int32.ofNat 4 = 4 from rfl, show (0 : Int32) - 1 = -1 from rfl, show iR0 18 = (fun _ => 0) from rfl] at *; omega)

set_option maxRecDepth 100000 in
set_option maxHeartbeats 40000000 in
theorem pC_mark (a b : Int32) (Q : nk_Q) (hq : ∀ h : nk_H, Q (some (.int (f_mark a b))) h) : ev_X5_mark [.ref 0, .int a, .int b] hC0 Q := by
  all_goals repeat' first
    | refine nk_s ?_
    | refine nk_br.t (by decide) ?_
    | refine nk_br.f (by decide) ?_
    | (refine nk_br.mk (fun _ => ?_) (fun _ => ?_) <;> try (exfalso; simp only [Int32.lt_iff_toInt_lt, Int32.le_iff_toInt_le, li_m9, li_m4, li_m3, li_m2, li_m1, li_0, li_1, li_2, li_3, li_4, li_5, li_6, li_7, li_9, li_10, li_12, li_15, li_16, li_20, li_40, li_99, li_999, show fC0 2 = 0 from rfl, show fC0 3 = 0 from rfl, show fC0 26 = 0 from rfl, show fC0 27 = 0 from rfl, show fC0 28 = 0 from rfl, show fC0 29 = 0 from rfl, show Int32.ofNat 6 = 6 from rfl, show Int32.ofNat 4 = 4 from rfl, show (0 : Int32) - 1 = -1 from rfl, show iR0 18 = (fun _ => 0) from rfl] at *; omega; done))
    | refine nk_bo0 ?_
    | refine nk_bo1 ?_
    | refine And.intro (by unfold vp_in; decide) ?_
    | (fail; refine nk_swx ?_; first | refine nk_sw_d (by decide) (by decide) ?_ | refine nk_sw_i 0 (by decide) (by decide) ?_ | refine nk_sw_i 1 (by decide) (by decide) ?_ | refine nk_sw_i 2 (by decide) (by decide) ?_ | refine nk_sw_i 3 (by decide) (by decide) ?_ | refine nk_sw_i 4 (by decide) (by decide) ?_ | refine nk_sw_i 5 (by decide) (by decide) ?_ | fail)
    | fail
  all_goals first
    | (refine lf hq ?_
       unfold f_mark
       repeat' split
       all_goals first
         | rfl
         | (exfalso; simp only [Int32.lt_iff_toInt_lt, Int32.le_iff_toInt_le, li_m9, li_m4, li_m3, li_m2, li_m1, li_0, li_1, li_2, li_3, li_4, li_5, li_6, li_7, li_9, li_10, li_12, li_15, li_16, li_20, li_40, li_99, li_999, show fC0 2 = 0 from rfl, show fC0 3 = 0 from rfl, show fC0 26 = 0 from rfl, show fC0 27 = 0 from rfl, show fC0 28 = 0 from rfl, show fC0 29 = 0 from rfl, show Int32.ofNat 6 = 6 from rfl, show Int32.ofNat 4 = 4 from rfl, show (0 : Int32) - 1 = -1 from rfl, show iR0 18 = (fun _ => 0) from rfl] at *; omega))
    | (exfalso; simp only [Int32.lt_iff_toInt_lt, Int32.le_iff_toInt_le, li_m9, li_m4, li_m3, li_m2, li_m1, li_0, li_1, li_2, li_3, li_4, li_5, li_6, li_7, li_9, li_10, li_12, li_15, li_16, li_20, li_40, li_99, li_999, show fC0 2 = 0 from rfl, show fC0 3 = 0 from rfl, show fC0 26 = 0 from rfl, show fC0 27 = 0 from rfl, show fC0 28 = 0 from rfl, show fC0 29 = 0 from rfl, show Int32.ofNat 6 = 6 from rfl, show Int32.ofNat 4 = 4 from rfl, show (0 : Int32) - 1 = -1 from rfl, show iR0 18 = (fun _ => 0) from rfl] at *; omega)

set_option maxRecDepth 100000 in
set_option maxHeartbeats 40000000 in
theorem pC_fault (r : Int32) (Q : nk_Q) (hq : ∀ h : nk_H, Q (some (.int (f_fault r))) h) : ev_X5_fault [.ref 0, .int r] hC0 Q := by
  all_goals rcases sp_0_3 r with rfl | rfl | rfl | rfl | hs_r
  all_goals repeat' first
    | refine nk_s ?_
    | refine nk_br.t (by decide) ?_
    | refine nk_br.f (by decide) ?_
    | (refine nk_br.mk (fun _ => ?_) (fun _ => ?_) <;> try (exfalso; simp only [Int32.lt_iff_toInt_lt, Int32.le_iff_toInt_le, li_m9, li_m4, li_m3, li_m2, li_m1, li_0, li_1, li_2, li_3, li_4, li_5, li_6, li_7, li_9, li_10, li_12, li_15, li_16, li_20, li_40, li_99, li_999, show fC0 2 = 0 from rfl, show fC0 3 = 0 from rfl, show fC0 26 = 0 from rfl, show fC0 27 = 0 from rfl, show fC0 28 = 0 from rfl, show fC0 29 = 0 from rfl, show Int32.ofNat 6 = 6 from rfl, show Int32.ofNat 4 = 4 from rfl, show (0 : Int32) - 1 = -1 from rfl, show iR0 18 = (fun _ => 0) from rfl] at *; omega; done))
    | refine nk_bo0 ?_
    | refine nk_bo1 ?_
    | refine And.intro (by unfold vp_in; decide) ?_
    | (fail; refine nk_swx ?_; first | refine nk_sw_d (by decide) (by decide) ?_ | refine nk_sw_i 0 (by decide) (by decide) ?_ | refine nk_sw_i 1 (by decide) (by decide) ?_ | refine nk_sw_i 2 (by decide) (by decide) ?_ | refine nk_sw_i 3 (by decide) (by decide) ?_ | refine nk_sw_i 4 (by decide) (by decide) ?_ | refine nk_sw_i 5 (by decide) (by decide) ?_ | fail)
    | fail
  all_goals first
    | (refine lf hq ?_
       unfold f_fault
       repeat' split
       all_goals first
         | rfl
         | (exfalso; simp only [Int32.lt_iff_toInt_lt, Int32.le_iff_toInt_le, li_m9, li_m4, li_m3, li_m2, li_m1, li_0, li_1, li_2, li_3, li_4, li_5, li_6, li_7, li_9, li_10, li_12, li_15, li_16, li_20, li_40, li_99, li_999, show fC0 2 = 0 from rfl, show fC0 3 = 0 from rfl, show fC0 26 = 0 from rfl, show fC0 27 = 0 from rfl, show fC0 28 = 0 from rfl, show fC0 29 = 0 from rfl, show Int32.ofNat 6 = 6 from rfl, show Int32.ofNat 4 = 4 from rfl, show (0 : Int32) - 1 = -1 from rfl, show iR0 18 = (fun _ => 0) from rfl] at *; omega))
    | (exfalso; simp only [Int32.lt_iff_toInt_lt, Int32.le_iff_toInt_le, li_m9, li_m4, li_m3, li_m2, li_m1, li_0, li_1, li_2, li_3, li_4, li_5, li_6, li_7, li_9, li_10, li_12, li_15, li_16, li_20, li_40, li_99, li_999, show fC0 2 = 0 from rfl, show fC0 3 = 0 from rfl, show fC0 26 = 0 from rfl, show fC0 27 = 0 from rfl, show fC0 28 = 0 from rfl, show fC0 29 = 0 from rfl, show Int32.ofNat 6 = 6 from rfl, show Int32.ofNat 4 = 4 from rfl, show (0 : Int32) - 1 = -1 from rfl, show iR0 18 = (fun _ => 0) from rfl] at *; omega)

set_option maxRecDepth 100000 in
set_option maxHeartbeats 40000000 in
theorem pC_laws (l r : Int32) (Q : nk_Q) (hq : ∀ h : nk_H, Q (some (.int (f_laws l r))) h) : ev_X5_laws [.ref 0, .int l, .int r] hC0 Q := by
  all_goals rcases sp_0_3 r with rfl | rfl | rfl | rfl | hs_r
  all_goals rcases sp_0_3 l with rfl | rfl | rfl | rfl | hs_l
  all_goals repeat' first
    | refine nk_s ?_
    | refine nk_br.t (by decide) ?_
    | refine nk_br.f (by decide) ?_
    | (refine nk_br.mk (fun _ => ?_) (fun _ => ?_) <;> try (exfalso; simp only [Int32.lt_iff_toInt_lt, Int32.le_iff_toInt_le, li_m9, li_m4, li_m3, li_m2, li_m1, li_0, li_1, li_2, li_3, li_4, li_5, li_6, li_7, li_9, li_10, li_12, li_15, li_16, li_20, li_40, li_99, li_999, show fC0 2 = 0 from rfl, show fC0 3 = 0 from rfl, show fC0 26 = 0 from rfl, show fC0 27 = 0 from rfl, show fC0 28 = 0 from rfl, show fC0 29 = 0 from rfl, show Int32.ofNat 6 = 6 from rfl, show Int32.ofNat 4 = 4 from rfl, show (0 : Int32) - 1 = -1 from rfl, show iR0 18 = (fun _ => 0) from rfl] at *; omega; done))
    | refine nk_bo0 ?_
    | refine nk_bo1 ?_
    | refine And.intro (by unfold vp_in; decide) ?_
    | (fail; refine nk_swx ?_; first | refine nk_sw_d (by decide) (by decide) ?_ | refine nk_sw_i 0 (by decide) (by decide) ?_ | refine nk_sw_i 1 (by decide) (by decide) ?_ | refine nk_sw_i 2 (by decide) (by decide) ?_ | refine nk_sw_i 3 (by decide) (by decide) ?_ | refine nk_sw_i 4 (by decide) (by decide) ?_ | refine nk_sw_i 5 (by decide) (by decide) ?_ | fail)
    | fail
  all_goals first
    | (refine lf hq ?_
       unfold f_laws
       repeat' split
       all_goals first
         | rfl
         | (exfalso; simp only [Int32.lt_iff_toInt_lt, Int32.le_iff_toInt_le, li_m9, li_m4, li_m3, li_m2, li_m1, li_0, li_1, li_2, li_3, li_4, li_5, li_6, li_7, li_9, li_10, li_12, li_15, li_16, li_20, li_40, li_99, li_999, show fC0 2 = 0 from rfl, show fC0 3 = 0 from rfl, show fC0 26 = 0 from rfl, show fC0 27 = 0 from rfl, show fC0 28 = 0 from rfl, show fC0 29 = 0 from rfl, show Int32.ofNat 6 = 6 from rfl, show Int32.ofNat 4 = 4 from rfl, show (0 : Int32) - 1 = -1 from rfl, show iR0 18 = (fun _ => 0) from rfl] at *; omega))
    | (exfalso; simp only [Int32.lt_iff_toInt_lt, Int32.le_iff_toInt_le, li_m9, li_m4, li_m3, li_m2, li_m1, li_0, li_1, li_2, li_3, li_4, li_5, li_6, li_7, li_9, li_10, li_12, li_15, li_16, li_20, li_40, li_99, li_999, show fC0 2 = 0 from rfl, show fC0 3 = 0 from rfl, show fC0 26 = 0 from rfl, show fC0 27 = 0 from rfl, show fC0 28 = 0 from rfl, show fC0 29 = 0 from rfl, show Int32.ofNat 6 = 6 from rfl, show Int32.ofNat 4 = 4 from rfl, show (0 : Int32) - 1 = -1 from rfl, show iR0 18 = (fun _ => 0) from rfl] at *; omega)

set_option maxRecDepth 100000 in
set_option maxHeartbeats 40000000 in
theorem pC_law (r : Int32) (Q : nk_Q) (hq : ∀ h : nk_H, Q (some (.int (f_law r))) h) : ev_X5_law [.ref 0, .int r] hC0 Q := by
  all_goals rcases sp_0_3 r with rfl | rfl | rfl | rfl | hs_r
  all_goals repeat' first
    | refine nk_s ?_
    | refine nk_br.t (by decide) ?_
    | refine nk_br.f (by decide) ?_
    | (refine nk_br.mk (fun _ => ?_) (fun _ => ?_) <;> try (exfalso; simp only [Int32.lt_iff_toInt_lt, Int32.le_iff_toInt_le, li_m9, li_m4, li_m3, li_m2, li_m1, li_0, li_1, li_2, li_3, li_4, li_5, li_6, li_7, li_9, li_10, li_12, li_15, li_16, li_20, li_40, li_99, li_999, show fC0 2 = 0 from rfl, show fC0 3 = 0 from rfl, show fC0 26 = 0 from rfl, show fC0 27 = 0 from rfl, show fC0 28 = 0 from rfl, show fC0 29 = 0 from rfl, show Int32.ofNat 6 = 6 from rfl, show Int32.ofNat 4 = 4 from rfl, show (0 : Int32) - 1 = -1 from rfl, show iR0 18 = (fun _ => 0) from rfl] at *; omega; done))
    | refine nk_bo0 ?_
    | refine nk_bo1 ?_
    | refine And.intro (by unfold vp_in; decide) ?_
    | (fail; refine nk_swx ?_; first | refine nk_sw_d (by decide) (by decide) ?_ | refine nk_sw_i 0 (by decide) (by decide) ?_ | refine nk_sw_i 1 (by decide) (by decide) ?_ | refine nk_sw_i 2 (by decide) (by decide) ?_ | refine nk_sw_i 3 (by decide) (by decide) ?_ | refine nk_sw_i 4 (by decide) (by decide) ?_ | refine nk_sw_i 5 (by decide) (by decide) ?_ | fail)
    | fail
  all_goals first
    | (refine lf hq ?_
       unfold f_law
       repeat' split
       all_goals first
         | rfl
         | (exfalso; simp only [Int32.lt_iff_toInt_lt, Int32.le_iff_toInt_le, li_m9, li_m4, li_m3, li_m2, li_m1, li_0, li_1, li_2, li_3, li_4, li_5, li_6, li_7, li_9, li_10, li_12, li_15, li_16, li_20, li_40, li_99, li_999, show fC0 2 = 0 from rfl, show fC0 3 = 0 from rfl, show fC0 26 = 0 from rfl, show fC0 27 = 0 from rfl, show fC0 28 = 0 from rfl, show fC0 29 = 0 from rfl, show Int32.ofNat 6 = 6 from rfl, show Int32.ofNat 4 = 4 from rfl, show (0 : Int32) - 1 = -1 from rfl, show iR0 18 = (fun _ => 0) from rfl] at *; omega))
    | (exfalso; simp only [Int32.lt_iff_toInt_lt, Int32.le_iff_toInt_le, li_m9, li_m4, li_m3, li_m2, li_m1, li_0, li_1, li_2, li_3, li_4, li_5, li_6, li_7, li_9, li_10, li_12, li_15, li_16, li_20, li_40, li_99, li_999, show fC0 2 = 0 from rfl, show fC0 3 = 0 from rfl, show fC0 26 = 0 from rfl, show fC0 27 = 0 from rfl, show fC0 28 = 0 from rfl, show fC0 29 = 0 from rfl, show Int32.ofNat 6 = 6 from rfl, show Int32.ofNat 4 = 4 from rfl, show (0 : Int32) - 1 = -1 from rfl, show iR0 18 = (fun _ => 0) from rfl] at *; omega)

set_option maxRecDepth 100000 in
set_option maxHeartbeats 40000000 in
theorem pC_inside (a b : Int32) (Q : nk_Q) (hq : ∀ h : nk_H, Q (some (.int (f_inside a b))) h) : ev_X5_inside [.ref 0, .int a, .int b] hC0 Q := by
  all_goals repeat' first
    | refine nk_s ?_
    | refine nk_br.t (by decide) ?_
    | refine nk_br.f (by decide) ?_
    | (refine nk_br.mk (fun _ => ?_) (fun _ => ?_) <;> try (exfalso; simp only [Int32.lt_iff_toInt_lt, Int32.le_iff_toInt_le, li_m9, li_m4, li_m3, li_m2, li_m1, li_0, li_1, li_2, li_3, li_4, li_5, li_6, li_7, li_9, li_10, li_12, li_15, li_16, li_20, li_40, li_99, li_999, show fC0 2 = 0 from rfl, show fC0 3 = 0 from rfl, show fC0 26 = 0 from rfl, show fC0 27 = 0 from rfl, show fC0 28 = 0 from rfl, show fC0 29 = 0 from rfl, show Int32.ofNat 6 = 6 from rfl, show Int32.ofNat 4 = 4 from rfl, show (0 : Int32) - 1 = -1 from rfl, show iR0 18 = (fun _ => 0) from rfl] at *; omega; done))
    | refine nk_bo0 ?_
    | refine nk_bo1 ?_
    | refine And.intro (by unfold vp_in; decide) ?_
    | (fail; refine nk_swx ?_; first | refine nk_sw_d (by decide) (by decide) ?_ | refine nk_sw_i 0 (by decide) (by decide) ?_ | refine nk_sw_i 1 (by decide) (by decide) ?_ | refine nk_sw_i 2 (by decide) (by decide) ?_ | refine nk_sw_i 3 (by decide) (by decide) ?_ | refine nk_sw_i 4 (by decide) (by decide) ?_ | refine nk_sw_i 5 (by decide) (by decide) ?_ | fail)
    | fail
  all_goals first
    | (refine lf hq ?_
       unfold f_inside
       repeat' split
       all_goals first
         | rfl
         | (exfalso; simp only [Int32.lt_iff_toInt_lt, Int32.le_iff_toInt_le, li_m9, li_m4, li_m3, li_m2, li_m1, li_0, li_1, li_2, li_3, li_4, li_5, li_6, li_7, li_9, li_10, li_12, li_15, li_16, li_20, li_40, li_99, li_999, show fC0 2 = 0 from rfl, show fC0 3 = 0 from rfl, show fC0 26 = 0 from rfl, show fC0 27 = 0 from rfl, show fC0 28 = 0 from rfl, show fC0 29 = 0 from rfl, show Int32.ofNat 6 = 6 from rfl, show Int32.ofNat 4 = 4 from rfl, show (0 : Int32) - 1 = -1 from rfl, show iR0 18 = (fun _ => 0) from rfl] at *; omega))
    | (exfalso; simp only [Int32.lt_iff_toInt_lt, Int32.le_iff_toInt_le, li_m9, li_m4, li_m3, li_m2, li_m1, li_0, li_1, li_2, li_3, li_4, li_5, li_6, li_7, li_9, li_10, li_12, li_15, li_16, li_20, li_40, li_99, li_999, show fC0 2 = 0 from rfl, show fC0 3 = 0 from rfl, show fC0 26 = 0 from rfl, show fC0 27 = 0 from rfl, show fC0 28 = 0 from rfl, show fC0 29 = 0 from rfl, show Int32.ofNat 6 = 6 from rfl, show Int32.ofNat 4 = 4 from rfl, show (0 : Int32) - 1 = -1 from rfl, show iR0 18 = (fun _ => 0) from rfl] at *; omega)

set_option maxRecDepth 100000 in
set_option maxHeartbeats 40000000 in
theorem pC_now (a b c : Int32) (Q : nk_Q) (hq : ∀ h : nk_H, Q (some (.int (f_now a b c))) h) : ev_X5_now [.ref 0, .int a, .int b, .int c] hC0 Q := by
  all_goals repeat' first
    | refine nk_s ?_
    | refine nk_br.t (by decide) ?_
    | refine nk_br.f (by decide) ?_
    | (refine nk_br.mk (fun _ => ?_) (fun _ => ?_) <;> try (exfalso; simp only [Int32.lt_iff_toInt_lt, Int32.le_iff_toInt_le, li_m9, li_m4, li_m3, li_m2, li_m1, li_0, li_1, li_2, li_3, li_4, li_5, li_6, li_7, li_9, li_10, li_12, li_15, li_16, li_20, li_40, li_99, li_999, show fC0 2 = 0 from rfl, show fC0 3 = 0 from rfl, show fC0 26 = 0 from rfl, show fC0 27 = 0 from rfl, show fC0 28 = 0 from rfl, show fC0 29 = 0 from rfl, show Int32.ofNat 6 = 6 from rfl, show Int32.ofNat 4 = 4 from rfl, show (0 : Int32) - 1 = -1 from rfl, show iR0 18 = (fun _ => 0) from rfl] at *; omega; done))
    | refine nk_bo0 ?_
    | refine nk_bo1 ?_
    | refine And.intro (by unfold vp_in; decide) ?_
    | (fail; refine nk_swx ?_; first | refine nk_sw_d (by decide) (by decide) ?_ | refine nk_sw_i 0 (by decide) (by decide) ?_ | refine nk_sw_i 1 (by decide) (by decide) ?_ | refine nk_sw_i 2 (by decide) (by decide) ?_ | refine nk_sw_i 3 (by decide) (by decide) ?_ | refine nk_sw_i 4 (by decide) (by decide) ?_ | refine nk_sw_i 5 (by decide) (by decide) ?_ | fail)
    | fail
  all_goals first
    | (refine lf hq ?_
       unfold f_now
       repeat' split
       all_goals first
         | rfl
         | (exfalso; simp only [Int32.lt_iff_toInt_lt, Int32.le_iff_toInt_le, li_m9, li_m4, li_m3, li_m2, li_m1, li_0, li_1, li_2, li_3, li_4, li_5, li_6, li_7, li_9, li_10, li_12, li_15, li_16, li_20, li_40, li_99, li_999, show fC0 2 = 0 from rfl, show fC0 3 = 0 from rfl, show fC0 26 = 0 from rfl, show fC0 27 = 0 from rfl, show fC0 28 = 0 from rfl, show fC0 29 = 0 from rfl, show Int32.ofNat 6 = 6 from rfl, show Int32.ofNat 4 = 4 from rfl, show (0 : Int32) - 1 = -1 from rfl, show iR0 18 = (fun _ => 0) from rfl] at *; omega))
    | (exfalso; simp only [Int32.lt_iff_toInt_lt, Int32.le_iff_toInt_le, li_m9, li_m4, li_m3, li_m2, li_m1, li_0, li_1, li_2, li_3, li_4, li_5, li_6, li_7, li_9, li_10, li_12, li_15, li_16, li_20, li_40, li_99, li_999, show fC0 2 = 0 from rfl, show fC0 3 = 0 from rfl, show fC0 26 = 0 from rfl, show fC0 27 = 0 from rfl, show fC0 28 = 0 from rfl, show fC0 29 = 0 from rfl, show Int32.ofNat 6 = 6 from rfl, show Int32.ofNat 4 = 4 from rfl, show (0 : Int32) - 1 = -1 from rfl, show iR0 18 = (fun _ => 0) from rfl] at *; omega)

set_option maxRecDepth 100000 in
set_option maxHeartbeats 40000000 in
theorem pC_whose (a b c d e : Int32) (Q : nk_Q) (hq : ∀ h : nk_H, Q (some (.int (f_whose a b c d e))) h) : ev_X5_whose [.ref 0, .int a, .int b, .int c, .int d, .int e] hC0 Q := by
  all_goals repeat' first
    | refine nk_s ?_
    | refine nk_br.t (by decide) ?_
    | refine nk_br.f (by decide) ?_
    | (refine nk_br.mk (fun _ => ?_) (fun _ => ?_) <;> try (exfalso; simp only [Int32.lt_iff_toInt_lt, Int32.le_iff_toInt_le, li_m9, li_m4, li_m3, li_m2, li_m1, li_0, li_1, li_2, li_3, li_4, li_5, li_6, li_7, li_9, li_10, li_12, li_15, li_16, li_20, li_40, li_99, li_999, show fC0 2 = 0 from rfl, show fC0 3 = 0 from rfl, show fC0 26 = 0 from rfl, show fC0 27 = 0 from rfl, show fC0 28 = 0 from rfl, show fC0 29 = 0 from rfl, show Int32.ofNat 6 = 6 from rfl, show Int32.ofNat 4 = 4 from rfl, show (0 : Int32) - 1 = -1 from rfl, show iR0 18 = (fun _ => 0) from rfl] at *; omega; done))
    | refine nk_bo0 ?_
    | refine nk_bo1 ?_
    | refine And.intro (by unfold vp_in; decide) ?_
    | (fail; refine nk_swx ?_; first | refine nk_sw_d (by decide) (by decide) ?_ | refine nk_sw_i 0 (by decide) (by decide) ?_ | refine nk_sw_i 1 (by decide) (by decide) ?_ | refine nk_sw_i 2 (by decide) (by decide) ?_ | refine nk_sw_i 3 (by decide) (by decide) ?_ | refine nk_sw_i 4 (by decide) (by decide) ?_ | refine nk_sw_i 5 (by decide) (by decide) ?_ | fail)
    | fail
  all_goals first
    | (refine lf hq ?_
       unfold f_whose
       repeat' split
       all_goals first
         | rfl
         | (exfalso; simp only [Int32.lt_iff_toInt_lt, Int32.le_iff_toInt_le, li_m9, li_m4, li_m3, li_m2, li_m1, li_0, li_1, li_2, li_3, li_4, li_5, li_6, li_7, li_9, li_10, li_12, li_15, li_16, li_20, li_40, li_99, li_999, show fC0 2 = 0 from rfl, show fC0 3 = 0 from rfl, show fC0 26 = 0 from rfl, show fC0 27 = 0 from rfl, show fC0 28 = 0 from rfl, show fC0 29 = 0 from rfl, show Int32.ofNat 6 = 6 from rfl, show Int32.ofNat 4 = 4 from rfl, show (0 : Int32) - 1 = -1 from rfl, show iR0 18 = (fun _ => 0) from rfl] at *; omega))
    | (exfalso; simp only [Int32.lt_iff_toInt_lt, Int32.le_iff_toInt_le, li_m9, li_m4, li_m3, li_m2, li_m1, li_0, li_1, li_2, li_3, li_4, li_5, li_6, li_7, li_9, li_10, li_12, li_15, li_16, li_20, li_40, li_99, li_999, show fC0 2 = 0 from rfl, show fC0 3 = 0 from rfl, show fC0 26 = 0 from rfl, show fC0 27 = 0 from rfl, show fC0 28 = 0 from rfl, show fC0 29 = 0 from rfl, show Int32.ofNat 6 = 6 from rfl, show Int32.ofNat 4 = 4 from rfl, show (0 : Int32) - 1 = -1 from rfl, show iR0 18 = (fun _ => 0) from rfl] at *; omega)

set_option maxRecDepth 100000 in
set_option maxHeartbeats 40000000 in
theorem pC_owners (a b c d : Int32) (Q : nk_Q) (hq : ∀ h : nk_H, Q (some (.int (f_owners a b c d))) h) : ev_X5_owners [.ref 0, .int a, .int b, .int c, .int d] hC0 Q := by
  all_goals repeat' first
    | refine nk_s ?_
    | refine nk_br.t (by decide) ?_
    | refine nk_br.f (by decide) ?_
    | (refine nk_br.mk (fun _ => ?_) (fun _ => ?_) <;> try (exfalso; simp only [Int32.lt_iff_toInt_lt, Int32.le_iff_toInt_le, li_m9, li_m4, li_m3, li_m2, li_m1, li_0, li_1, li_2, li_3, li_4, li_5, li_6, li_7, li_9, li_10, li_12, li_15, li_16, li_20, li_40, li_99, li_999, show fC0 2 = 0 from rfl, show fC0 3 = 0 from rfl, show fC0 26 = 0 from rfl, show fC0 27 = 0 from rfl, show fC0 28 = 0 from rfl, show fC0 29 = 0 from rfl, show Int32.ofNat 6 = 6 from rfl, show Int32.ofNat 4 = 4 from rfl, show (0 : Int32) - 1 = -1 from rfl, show iR0 18 = (fun _ => 0) from rfl] at *; omega; done))
    | refine nk_bo0 ?_
    | refine nk_bo1 ?_
    | refine And.intro (by unfold vp_in; decide) ?_
    | (fail; refine nk_swx ?_; first | refine nk_sw_d (by decide) (by decide) ?_ | refine nk_sw_i 0 (by decide) (by decide) ?_ | refine nk_sw_i 1 (by decide) (by decide) ?_ | refine nk_sw_i 2 (by decide) (by decide) ?_ | refine nk_sw_i 3 (by decide) (by decide) ?_ | refine nk_sw_i 4 (by decide) (by decide) ?_ | refine nk_sw_i 5 (by decide) (by decide) ?_ | fail)
    | fail
  all_goals first
    | (refine lf hq ?_
       unfold f_owners
       repeat' split
       all_goals first
         | rfl
         | (exfalso; simp only [Int32.lt_iff_toInt_lt, Int32.le_iff_toInt_le, li_m9, li_m4, li_m3, li_m2, li_m1, li_0, li_1, li_2, li_3, li_4, li_5, li_6, li_7, li_9, li_10, li_12, li_15, li_16, li_20, li_40, li_99, li_999, show fC0 2 = 0 from rfl, show fC0 3 = 0 from rfl, show fC0 26 = 0 from rfl, show fC0 27 = 0 from rfl, show fC0 28 = 0 from rfl, show fC0 29 = 0 from rfl, show Int32.ofNat 6 = 6 from rfl, show Int32.ofNat 4 = 4 from rfl, show (0 : Int32) - 1 = -1 from rfl, show iR0 18 = (fun _ => 0) from rfl] at *; omega))
    | (exfalso; simp only [Int32.lt_iff_toInt_lt, Int32.le_iff_toInt_le, li_m9, li_m4, li_m3, li_m2, li_m1, li_0, li_1, li_2, li_3, li_4, li_5, li_6, li_7, li_9, li_10, li_12, li_15, li_16, li_20, li_40, li_99, li_999, show fC0 2 = 0 from rfl, show fC0 3 = 0 from rfl, show fC0 26 = 0 from rfl, show fC0 27 = 0 from rfl, show fC0 28 = 0 from rfl, show fC0 29 = 0 from rfl, show Int32.ofNat 6 = 6 from rfl, show Int32.ofNat 4 = 4 from rfl, show (0 : Int32) - 1 = -1 from rfl, show iR0 18 = (fun _ => 0) from rfl] at *; omega)

set_option maxRecDepth 100000 in
set_option maxHeartbeats 40000000 in
theorem pC_changes (a b c d : Int32) (Q : nk_Q) (hq : ∀ h : nk_H, Q (some (.int (f_changes a b c d))) h) : ev_X5_changes [.ref 0, .int a, .int b, .int c, .int d] hC0 Q := by
  all_goals repeat' first
    | refine nk_s ?_
    | refine nk_br.t (by decide) ?_
    | refine nk_br.f (by decide) ?_
    | (refine nk_br.mk (fun _ => ?_) (fun _ => ?_) <;> try (exfalso; simp only [Int32.lt_iff_toInt_lt, Int32.le_iff_toInt_le, li_m9, li_m4, li_m3, li_m2, li_m1, li_0, li_1, li_2, li_3, li_4, li_5, li_6, li_7, li_9, li_10, li_12, li_15, li_16, li_20, li_40, li_99, li_999, show fC0 2 = 0 from rfl, show fC0 3 = 0 from rfl, show fC0 26 = 0 from rfl, show fC0 27 = 0 from rfl, show fC0 28 = 0 from rfl, show fC0 29 = 0 from rfl, show Int32.ofNat 6 = 6 from rfl, show Int32.ofNat 4 = 4 from rfl, show (0 : Int32) - 1 = -1 from rfl, show iR0 18 = (fun _ => 0) from rfl] at *; omega; done))
    | refine nk_bo0 ?_
    | refine nk_bo1 ?_
    | refine And.intro (by unfold vp_in; decide) ?_
    | (fail; refine nk_swx ?_; first | refine nk_sw_d (by decide) (by decide) ?_ | refine nk_sw_i 0 (by decide) (by decide) ?_ | refine nk_sw_i 1 (by decide) (by decide) ?_ | refine nk_sw_i 2 (by decide) (by decide) ?_ | refine nk_sw_i 3 (by decide) (by decide) ?_ | refine nk_sw_i 4 (by decide) (by decide) ?_ | refine nk_sw_i 5 (by decide) (by decide) ?_ | fail)
    | fail
  all_goals first
    | (refine lf hq ?_
       unfold f_changes
       repeat' split
       all_goals first
         | rfl
         | (exfalso; simp only [Int32.lt_iff_toInt_lt, Int32.le_iff_toInt_le, li_m9, li_m4, li_m3, li_m2, li_m1, li_0, li_1, li_2, li_3, li_4, li_5, li_6, li_7, li_9, li_10, li_12, li_15, li_16, li_20, li_40, li_99, li_999, show fC0 2 = 0 from rfl, show fC0 3 = 0 from rfl, show fC0 26 = 0 from rfl, show fC0 27 = 0 from rfl, show fC0 28 = 0 from rfl, show fC0 29 = 0 from rfl, show Int32.ofNat 6 = 6 from rfl, show Int32.ofNat 4 = 4 from rfl, show (0 : Int32) - 1 = -1 from rfl, show iR0 18 = (fun _ => 0) from rfl] at *; omega))
    | (exfalso; simp only [Int32.lt_iff_toInt_lt, Int32.le_iff_toInt_le, li_m9, li_m4, li_m3, li_m2, li_m1, li_0, li_1, li_2, li_3, li_4, li_5, li_6, li_7, li_9, li_10, li_12, li_15, li_16, li_20, li_40, li_99, li_999, show fC0 2 = 0 from rfl, show fC0 3 = 0 from rfl, show fC0 26 = 0 from rfl, show fC0 27 = 0 from rfl, show fC0 28 = 0 from rfl, show fC0 29 = 0 from rfl, show Int32.ofNat 6 = 6 from rfl, show Int32.ofNat 4 = 4 from rfl, show (0 : Int32) - 1 = -1 from rfl, show iR0 18 = (fun _ => 0) from rfl] at *; omega)

set_option maxRecDepth 100000 in
set_option maxHeartbeats 40000000 in
theorem pC_lost (a b c d : Int32) (Q : nk_Q) (hq : ∀ h : nk_H, Q (some (.int (f_lost a b c d))) h) : ev_X5_lost [.ref 0, .int a, .int b, .int c, .int d] hC0 Q := by
  all_goals repeat' first
    | refine nk_s ?_
    | refine nk_br.t (by decide) ?_
    | refine nk_br.f (by decide) ?_
    | (refine nk_br.mk (fun _ => ?_) (fun _ => ?_) <;> try (exfalso; simp only [Int32.lt_iff_toInt_lt, Int32.le_iff_toInt_le, li_m9, li_m4, li_m3, li_m2, li_m1, li_0, li_1, li_2, li_3, li_4, li_5, li_6, li_7, li_9, li_10, li_12, li_15, li_16, li_20, li_40, li_99, li_999, show fC0 2 = 0 from rfl, show fC0 3 = 0 from rfl, show fC0 26 = 0 from rfl, show fC0 27 = 0 from rfl, show fC0 28 = 0 from rfl, show fC0 29 = 0 from rfl, show Int32.ofNat 6 = 6 from rfl, show Int32.ofNat 4 = 4 from rfl, show (0 : Int32) - 1 = -1 from rfl, show iR0 18 = (fun _ => 0) from rfl] at *; omega; done))
    | refine nk_bo0 ?_
    | refine nk_bo1 ?_
    | refine And.intro (by unfold vp_in; decide) ?_
    | (fail; refine nk_swx ?_; first | refine nk_sw_d (by decide) (by decide) ?_ | refine nk_sw_i 0 (by decide) (by decide) ?_ | refine nk_sw_i 1 (by decide) (by decide) ?_ | refine nk_sw_i 2 (by decide) (by decide) ?_ | refine nk_sw_i 3 (by decide) (by decide) ?_ | refine nk_sw_i 4 (by decide) (by decide) ?_ | refine nk_sw_i 5 (by decide) (by decide) ?_ | fail)
    | fail
  all_goals first
    | (refine lf hq ?_
       unfold f_lost
       repeat' split
       all_goals first
         | rfl
         | (exfalso; simp only [Int32.lt_iff_toInt_lt, Int32.le_iff_toInt_le, li_m9, li_m4, li_m3, li_m2, li_m1, li_0, li_1, li_2, li_3, li_4, li_5, li_6, li_7, li_9, li_10, li_12, li_15, li_16, li_20, li_40, li_99, li_999, show fC0 2 = 0 from rfl, show fC0 3 = 0 from rfl, show fC0 26 = 0 from rfl, show fC0 27 = 0 from rfl, show fC0 28 = 0 from rfl, show fC0 29 = 0 from rfl, show Int32.ofNat 6 = 6 from rfl, show Int32.ofNat 4 = 4 from rfl, show (0 : Int32) - 1 = -1 from rfl, show iR0 18 = (fun _ => 0) from rfl] at *; omega))
    | (exfalso; simp only [Int32.lt_iff_toInt_lt, Int32.le_iff_toInt_le, li_m9, li_m4, li_m3, li_m2, li_m1, li_0, li_1, li_2, li_3, li_4, li_5, li_6, li_7, li_9, li_10, li_12, li_15, li_16, li_20, li_40, li_99, li_999, show fC0 2 = 0 from rfl, show fC0 3 = 0 from rfl, show fC0 26 = 0 from rfl, show fC0 27 = 0 from rfl, show fC0 28 = 0 from rfl, show fC0 29 = 0 from rfl, show Int32.ofNat 6 = 6 from rfl, show Int32.ofNat 4 = 4 from rfl, show (0 : Int32) - 1 = -1 from rfl, show iR0 18 = (fun _ => 0) from rfl] at *; omega)

set_option maxRecDepth 100000 in
set_option maxHeartbeats 40000000 in
theorem pC_beside (l r a : Int32) (Q : nk_Q) (hq : ∀ h : nk_H, Q (some (.int (f_beside l r a))) h) : ev_X5_beside [.ref 0, .int l, .int r, .int a] hC0 Q := by
  all_goals rcases sp_0_3 l with rfl | rfl | rfl | rfl | hs_l
  all_goals rcases sp_0_3 r with rfl | rfl | rfl | rfl | hs_r
  all_goals repeat' first
    | refine nk_s ?_
    | refine nk_br.t (by decide) ?_
    | refine nk_br.f (by decide) ?_
    | (refine nk_br.mk (fun _ => ?_) (fun _ => ?_) <;> try (exfalso; simp only [Int32.lt_iff_toInt_lt, Int32.le_iff_toInt_le, li_m9, li_m4, li_m3, li_m2, li_m1, li_0, li_1, li_2, li_3, li_4, li_5, li_6, li_7, li_9, li_10, li_12, li_15, li_16, li_20, li_40, li_99, li_999, show fC0 2 = 0 from rfl, show fC0 3 = 0 from rfl, show fC0 26 = 0 from rfl, show fC0 27 = 0 from rfl, show fC0 28 = 0 from rfl, show fC0 29 = 0 from rfl, show Int32.ofNat 6 = 6 from rfl, show Int32.ofNat 4 = 4 from rfl, show (0 : Int32) - 1 = -1 from rfl, show iR0 18 = (fun _ => 0) from rfl] at *; omega; done))
    | refine nk_bo0 ?_
    | refine nk_bo1 ?_
    | refine And.intro (by unfold vp_in; decide) ?_
    | (fail; refine nk_swx ?_; first | refine nk_sw_d (by decide) (by decide) ?_ | refine nk_sw_i 0 (by decide) (by decide) ?_ | refine nk_sw_i 1 (by decide) (by decide) ?_ | refine nk_sw_i 2 (by decide) (by decide) ?_ | refine nk_sw_i 3 (by decide) (by decide) ?_ | refine nk_sw_i 4 (by decide) (by decide) ?_ | refine nk_sw_i 5 (by decide) (by decide) ?_ | fail)
    | fail
  all_goals first
    | (refine lf hq ?_
       unfold f_beside
       repeat' split
       all_goals first
         | rfl
         | (exfalso; simp only [Int32.lt_iff_toInt_lt, Int32.le_iff_toInt_le, li_m9, li_m4, li_m3, li_m2, li_m1, li_0, li_1, li_2, li_3, li_4, li_5, li_6, li_7, li_9, li_10, li_12, li_15, li_16, li_20, li_40, li_99, li_999, show fC0 2 = 0 from rfl, show fC0 3 = 0 from rfl, show fC0 26 = 0 from rfl, show fC0 27 = 0 from rfl, show fC0 28 = 0 from rfl, show fC0 29 = 0 from rfl, show Int32.ofNat 6 = 6 from rfl, show Int32.ofNat 4 = 4 from rfl, show (0 : Int32) - 1 = -1 from rfl, show iR0 18 = (fun _ => 0) from rfl] at *; omega))
    | (exfalso; simp only [Int32.lt_iff_toInt_lt, Int32.le_iff_toInt_le, li_m9, li_m4, li_m3, li_m2, li_m1, li_0, li_1, li_2, li_3, li_4, li_5, li_6, li_7, li_9, li_10, li_12, li_15, li_16, li_20, li_40, li_99, li_999, show fC0 2 = 0 from rfl, show fC0 3 = 0 from rfl, show fC0 26 = 0 from rfl, show fC0 27 = 0 from rfl, show fC0 28 = 0 from rfl, show fC0 29 = 0 from rfl, show Int32.ofNat 6 = 6 from rfl, show Int32.ofNat 4 = 4 from rfl, show (0 : Int32) - 1 = -1 from rfl, show iR0 18 = (fun _ => 0) from rfl] at *; omega)

set_option maxRecDepth 100000 in
set_option maxHeartbeats 40000000 in
theorem pC_undo (a b : Int32) (Q : nk_Q) (hq : ∀ h : nk_H, Q (some (.int (f_undo a b))) h) : ev_X5_undo [.ref 0, .int a, .int b] hC0 Q := by
  all_goals rcases sp_0_0 b with rfl | hs_b
  all_goals repeat' first
    | refine nk_s ?_
    | refine nk_br.t (by decide) ?_
    | refine nk_br.f (by decide) ?_
    | (refine nk_br.mk (fun _ => ?_) (fun _ => ?_) <;> try (exfalso; simp only [Int32.lt_iff_toInt_lt, Int32.le_iff_toInt_le, li_m9, li_m4, li_m3, li_m2, li_m1, li_0, li_1, li_2, li_3, li_4, li_5, li_6, li_7, li_9, li_10, li_12, li_15, li_16, li_20, li_40, li_99, li_999, show fC0 2 = 0 from rfl, show fC0 3 = 0 from rfl, show fC0 26 = 0 from rfl, show fC0 27 = 0 from rfl, show fC0 28 = 0 from rfl, show fC0 29 = 0 from rfl, show Int32.ofNat 6 = 6 from rfl, show Int32.ofNat 4 = 4 from rfl, show (0 : Int32) - 1 = -1 from rfl, show iR0 18 = (fun _ => 0) from rfl] at *; omega; done))
    | refine nk_bo0 ?_
    | refine nk_bo1 ?_
    | refine And.intro (by unfold vp_in; decide) ?_
    | (fail; refine nk_swx ?_; first | refine nk_sw_d (by decide) (by decide) ?_ | refine nk_sw_i 0 (by decide) (by decide) ?_ | refine nk_sw_i 1 (by decide) (by decide) ?_ | refine nk_sw_i 2 (by decide) (by decide) ?_ | refine nk_sw_i 3 (by decide) (by decide) ?_ | refine nk_sw_i 4 (by decide) (by decide) ?_ | refine nk_sw_i 5 (by decide) (by decide) ?_ | fail)
    | fail
  all_goals first
    | (refine lf hq ?_
       unfold f_undo
       repeat' split
       all_goals first
         | rfl
         | (exfalso; simp only [Int32.lt_iff_toInt_lt, Int32.le_iff_toInt_le, li_m9, li_m4, li_m3, li_m2, li_m1, li_0, li_1, li_2, li_3, li_4, li_5, li_6, li_7, li_9, li_10, li_12, li_15, li_16, li_20, li_40, li_99, li_999, show fC0 2 = 0 from rfl, show fC0 3 = 0 from rfl, show fC0 26 = 0 from rfl, show fC0 27 = 0 from rfl, show fC0 28 = 0 from rfl, show fC0 29 = 0 from rfl, show Int32.ofNat 6 = 6 from rfl, show Int32.ofNat 4 = 4 from rfl, show (0 : Int32) - 1 = -1 from rfl, show iR0 18 = (fun _ => 0) from rfl] at *; omega))
    | (exfalso; simp only [Int32.lt_iff_toInt_lt, Int32.le_iff_toInt_le, li_m9, li_m4, li_m3, li_m2, li_m1, li_0, li_1, li_2, li_3, li_4, li_5, li_6, li_7, li_9, li_10, li_12, li_15, li_16, li_20, li_40, li_99, li_999, show fC0 2 = 0 from rfl, show fC0 3 = 0 from rfl, show fC0 26 = 0 from rfl, show fC0 27 = 0 from rfl, show fC0 28 = 0 from rfl, show fC0 29 = 0 from rfl, show Int32.ofNat 6 = 6 from rfl, show Int32.ofNat 4 = 4 from rfl, show (0 : Int32) - 1 = -1 from rfl, show iR0 18 = (fun _ => 0) from rfl] at *; omega)

set_option maxRecDepth 100000 in
set_option maxHeartbeats 40000000 in
theorem pC_sure (a b c d : Int32) (Q : nk_Q) (hq : ∀ h : nk_H, Q (some (.int (f_sure a b c d))) h) : ev_X5_sure [.ref 0, .int a, .int b, .int c, .int d] hC0 Q := by
  all_goals repeat' first
    | refine nk_s ?_
    | refine nk_br.t (by decide) ?_
    | refine nk_br.f (by decide) ?_
    | (refine nk_br.mk (fun _ => ?_) (fun _ => ?_) <;> try (exfalso; simp only [Int32.lt_iff_toInt_lt, Int32.le_iff_toInt_le, li_m9, li_m4, li_m3, li_m2, li_m1, li_0, li_1, li_2, li_3, li_4, li_5, li_6, li_7, li_9, li_10, li_12, li_15, li_16, li_20, li_40, li_99, li_999, show fC0 2 = 0 from rfl, show fC0 3 = 0 from rfl, show fC0 26 = 0 from rfl, show fC0 27 = 0 from rfl, show fC0 28 = 0 from rfl, show fC0 29 = 0 from rfl, show Int32.ofNat 6 = 6 from rfl, show Int32.ofNat 4 = 4 from rfl, show (0 : Int32) - 1 = -1 from rfl, show iR0 18 = (fun _ => 0) from rfl] at *; omega; done))
    | refine nk_bo0 ?_
    | refine nk_bo1 ?_
    | refine And.intro (by unfold vp_in; decide) ?_
    | (fail; refine nk_swx ?_; first | refine nk_sw_d (by decide) (by decide) ?_ | refine nk_sw_i 0 (by decide) (by decide) ?_ | refine nk_sw_i 1 (by decide) (by decide) ?_ | refine nk_sw_i 2 (by decide) (by decide) ?_ | refine nk_sw_i 3 (by decide) (by decide) ?_ | refine nk_sw_i 4 (by decide) (by decide) ?_ | refine nk_sw_i 5 (by decide) (by decide) ?_ | fail)
    | fail
  all_goals first
    | (refine lf hq ?_
       unfold f_sure
       repeat' split
       all_goals first
         | rfl
         | (exfalso; simp only [Int32.lt_iff_toInt_lt, Int32.le_iff_toInt_le, li_m9, li_m4, li_m3, li_m2, li_m1, li_0, li_1, li_2, li_3, li_4, li_5, li_6, li_7, li_9, li_10, li_12, li_15, li_16, li_20, li_40, li_99, li_999, show fC0 2 = 0 from rfl, show fC0 3 = 0 from rfl, show fC0 26 = 0 from rfl, show fC0 27 = 0 from rfl, show fC0 28 = 0 from rfl, show fC0 29 = 0 from rfl, show Int32.ofNat 6 = 6 from rfl, show Int32.ofNat 4 = 4 from rfl, show (0 : Int32) - 1 = -1 from rfl, show iR0 18 = (fun _ => 0) from rfl] at *; omega))
    | (exfalso; simp only [Int32.lt_iff_toInt_lt, Int32.le_iff_toInt_le, li_m9, li_m4, li_m3, li_m2, li_m1, li_0, li_1, li_2, li_3, li_4, li_5, li_6, li_7, li_9, li_10, li_12, li_15, li_16, li_20, li_40, li_99, li_999, show fC0 2 = 0 from rfl, show fC0 3 = 0 from rfl, show fC0 26 = 0 from rfl, show fC0 27 = 0 from rfl, show fC0 28 = 0 from rfl, show fC0 29 = 0 from rfl, show Int32.ofNat 6 = 6 from rfl, show Int32.ofNat 4 = 4 from rfl, show (0 : Int32) - 1 = -1 from rfl, show iR0 18 = (fun _ => 0) from rfl] at *; omega)

set_option maxRecDepth 100000 in
set_option maxHeartbeats 40000000 in
theorem pC_hangs (a b c d : Int32) (Q : nk_Q) (hq : ∀ h : nk_H, Q (some (.int (f_hangs a b c d))) h) : ev_X5_hangs [.ref 0, .int a, .int b, .int c, .int d] hC0 Q := by
  all_goals repeat' first
    | refine nk_s ?_
    | refine nk_br.t (by decide) ?_
    | refine nk_br.f (by decide) ?_
    | (refine nk_br.mk (fun _ => ?_) (fun _ => ?_) <;> try (exfalso; simp only [Int32.lt_iff_toInt_lt, Int32.le_iff_toInt_le, li_m9, li_m4, li_m3, li_m2, li_m1, li_0, li_1, li_2, li_3, li_4, li_5, li_6, li_7, li_9, li_10, li_12, li_15, li_16, li_20, li_40, li_99, li_999, show fC0 2 = 0 from rfl, show fC0 3 = 0 from rfl, show fC0 26 = 0 from rfl, show fC0 27 = 0 from rfl, show fC0 28 = 0 from rfl, show fC0 29 = 0 from rfl, show Int32.ofNat 6 = 6 from rfl, show Int32.ofNat 4 = 4 from rfl, show (0 : Int32) - 1 = -1 from rfl, show iR0 18 = (fun _ => 0) from rfl] at *; omega; done))
    | refine nk_bo0 ?_
    | refine nk_bo1 ?_
    | refine And.intro (by unfold vp_in; decide) ?_
    | (fail; refine nk_swx ?_; first | refine nk_sw_d (by decide) (by decide) ?_ | refine nk_sw_i 0 (by decide) (by decide) ?_ | refine nk_sw_i 1 (by decide) (by decide) ?_ | refine nk_sw_i 2 (by decide) (by decide) ?_ | refine nk_sw_i 3 (by decide) (by decide) ?_ | refine nk_sw_i 4 (by decide) (by decide) ?_ | refine nk_sw_i 5 (by decide) (by decide) ?_ | fail)
    | fail
  all_goals first
    | (refine lf hq ?_
       unfold f_hangs
       repeat' split
       all_goals first
         | rfl
         | (exfalso; simp only [Int32.lt_iff_toInt_lt, Int32.le_iff_toInt_le, li_m9, li_m4, li_m3, li_m2, li_m1, li_0, li_1, li_2, li_3, li_4, li_5, li_6, li_7, li_9, li_10, li_12, li_15, li_16, li_20, li_40, li_99, li_999, show fC0 2 = 0 from rfl, show fC0 3 = 0 from rfl, show fC0 26 = 0 from rfl, show fC0 27 = 0 from rfl, show fC0 28 = 0 from rfl, show fC0 29 = 0 from rfl, show Int32.ofNat 6 = 6 from rfl, show Int32.ofNat 4 = 4 from rfl, show (0 : Int32) - 1 = -1 from rfl, show iR0 18 = (fun _ => 0) from rfl] at *; omega))
    | (exfalso; simp only [Int32.lt_iff_toInt_lt, Int32.le_iff_toInt_le, li_m9, li_m4, li_m3, li_m2, li_m1, li_0, li_1, li_2, li_3, li_4, li_5, li_6, li_7, li_9, li_10, li_12, li_15, li_16, li_20, li_40, li_99, li_999, show fC0 2 = 0 from rfl, show fC0 3 = 0 from rfl, show fC0 26 = 0 from rfl, show fC0 27 = 0 from rfl, show fC0 28 = 0 from rfl, show fC0 29 = 0 from rfl, show Int32.ofNat 6 = 6 from rfl, show Int32.ofNat 4 = 4 from rfl, show (0 : Int32) - 1 = -1 from rfl, show iR0 18 = (fun _ => 0) from rfl] at *; omega)

set_option maxRecDepth 100000 in
set_option maxHeartbeats 40000000 in
theorem pC_sly (a b c d : Int32) (Q : nk_Q) (hq : ∀ h : nk_H, Q (some (.int (f_sly a b c d))) h) : ev_X5_sly [.ref 0, .int a, .int b, .int c, .int d] hC0 Q := by
  all_goals repeat' first
    | refine nk_s ?_
    | refine nk_br.t (by decide) ?_
    | refine nk_br.f (by decide) ?_
    | (refine nk_br.mk (fun _ => ?_) (fun _ => ?_) <;> try (exfalso; simp only [Int32.lt_iff_toInt_lt, Int32.le_iff_toInt_le, li_m9, li_m4, li_m3, li_m2, li_m1, li_0, li_1, li_2, li_3, li_4, li_5, li_6, li_7, li_9, li_10, li_12, li_15, li_16, li_20, li_40, li_99, li_999, show fC0 2 = 0 from rfl, show fC0 3 = 0 from rfl, show fC0 26 = 0 from rfl, show fC0 27 = 0 from rfl, show fC0 28 = 0 from rfl, show fC0 29 = 0 from rfl, show Int32.ofNat 6 = 6 from rfl, show Int32.ofNat 4 = 4 from rfl, show (0 : Int32) - 1 = -1 from rfl, show iR0 18 = (fun _ => 0) from rfl] at *; omega; done))
    | refine nk_bo0 ?_
    | refine nk_bo1 ?_
    | refine And.intro (by unfold vp_in; decide) ?_
    | (fail; refine nk_swx ?_; first | refine nk_sw_d (by decide) (by decide) ?_ | refine nk_sw_i 0 (by decide) (by decide) ?_ | refine nk_sw_i 1 (by decide) (by decide) ?_ | refine nk_sw_i 2 (by decide) (by decide) ?_ | refine nk_sw_i 3 (by decide) (by decide) ?_ | refine nk_sw_i 4 (by decide) (by decide) ?_ | refine nk_sw_i 5 (by decide) (by decide) ?_ | fail)
    | fail
  all_goals first
    | (refine lf hq ?_
       unfold f_sly
       repeat' split
       all_goals first
         | rfl
         | (exfalso; simp only [Int32.lt_iff_toInt_lt, Int32.le_iff_toInt_le, li_m9, li_m4, li_m3, li_m2, li_m1, li_0, li_1, li_2, li_3, li_4, li_5, li_6, li_7, li_9, li_10, li_12, li_15, li_16, li_20, li_40, li_99, li_999, show fC0 2 = 0 from rfl, show fC0 3 = 0 from rfl, show fC0 26 = 0 from rfl, show fC0 27 = 0 from rfl, show fC0 28 = 0 from rfl, show fC0 29 = 0 from rfl, show Int32.ofNat 6 = 6 from rfl, show Int32.ofNat 4 = 4 from rfl, show (0 : Int32) - 1 = -1 from rfl, show iR0 18 = (fun _ => 0) from rfl] at *; omega))
    | (exfalso; simp only [Int32.lt_iff_toInt_lt, Int32.le_iff_toInt_le, li_m9, li_m4, li_m3, li_m2, li_m1, li_0, li_1, li_2, li_3, li_4, li_5, li_6, li_7, li_9, li_10, li_12, li_15, li_16, li_20, li_40, li_99, li_999, show fC0 2 = 0 from rfl, show fC0 3 = 0 from rfl, show fC0 26 = 0 from rfl, show fC0 27 = 0 from rfl, show fC0 28 = 0 from rfl, show fC0 29 = 0 from rfl, show Int32.ofNat 6 = 6 from rfl, show Int32.ofNat 4 = 4 from rfl, show (0 : Int32) - 1 = -1 from rfl, show iR0 18 = (fun _ => 0) from rfl] at *; omega)

set_option maxRecDepth 100000 in
set_option maxHeartbeats 40000000 in
theorem pC_stop (a b c d : Int32) (Q : nk_Q) (hq : ∀ h : nk_H, Q (some (.int (f_stop a b c d))) h) : ev_X5_stop [.ref 0, .int a, .int b, .int c, .int d] hC0 Q := by
  all_goals repeat' first
    | refine nk_s ?_
    | refine nk_br.t (by decide) ?_
    | refine nk_br.f (by decide) ?_
    | (refine nk_br.mk (fun _ => ?_) (fun _ => ?_) <;> try (exfalso; simp only [Int32.lt_iff_toInt_lt, Int32.le_iff_toInt_le, li_m9, li_m4, li_m3, li_m2, li_m1, li_0, li_1, li_2, li_3, li_4, li_5, li_6, li_7, li_9, li_10, li_12, li_15, li_16, li_20, li_40, li_99, li_999, show fC0 2 = 0 from rfl, show fC0 3 = 0 from rfl, show fC0 26 = 0 from rfl, show fC0 27 = 0 from rfl, show fC0 28 = 0 from rfl, show fC0 29 = 0 from rfl, show Int32.ofNat 6 = 6 from rfl, show Int32.ofNat 4 = 4 from rfl, show (0 : Int32) - 1 = -1 from rfl, show iR0 18 = (fun _ => 0) from rfl] at *; omega; done))
    | refine nk_bo0 ?_
    | refine nk_bo1 ?_
    | refine And.intro (by unfold vp_in; decide) ?_
    | (fail; refine nk_swx ?_; first | refine nk_sw_d (by decide) (by decide) ?_ | refine nk_sw_i 0 (by decide) (by decide) ?_ | refine nk_sw_i 1 (by decide) (by decide) ?_ | refine nk_sw_i 2 (by decide) (by decide) ?_ | refine nk_sw_i 3 (by decide) (by decide) ?_ | refine nk_sw_i 4 (by decide) (by decide) ?_ | refine nk_sw_i 5 (by decide) (by decide) ?_ | fail)
    | fail
  all_goals first
    | (refine lf hq ?_
       unfold f_stop
       repeat' split
       all_goals first
         | rfl
         | (exfalso; simp only [Int32.lt_iff_toInt_lt, Int32.le_iff_toInt_le, li_m9, li_m4, li_m3, li_m2, li_m1, li_0, li_1, li_2, li_3, li_4, li_5, li_6, li_7, li_9, li_10, li_12, li_15, li_16, li_20, li_40, li_99, li_999, show fC0 2 = 0 from rfl, show fC0 3 = 0 from rfl, show fC0 26 = 0 from rfl, show fC0 27 = 0 from rfl, show fC0 28 = 0 from rfl, show fC0 29 = 0 from rfl, show Int32.ofNat 6 = 6 from rfl, show Int32.ofNat 4 = 4 from rfl, show (0 : Int32) - 1 = -1 from rfl, show iR0 18 = (fun _ => 0) from rfl] at *; omega))
    | (exfalso; simp only [Int32.lt_iff_toInt_lt, Int32.le_iff_toInt_le, li_m9, li_m4, li_m3, li_m2, li_m1, li_0, li_1, li_2, li_3, li_4, li_5, li_6, li_7, li_9, li_10, li_12, li_15, li_16, li_20, li_40, li_99, li_999, show fC0 2 = 0 from rfl, show fC0 3 = 0 from rfl, show fC0 26 = 0 from rfl, show fC0 27 = 0 from rfl, show fC0 28 = 0 from rfl, show fC0 29 = 0 from rfl, show Int32.ofNat 6 = 6 from rfl, show Int32.ofNat 4 = 4 from rfl, show (0 : Int32) - 1 = -1 from rfl, show iR0 18 = (fun _ => 0) from rfl] at *; omega)

set_option maxRecDepth 100000 in
set_option maxHeartbeats 40000000 in
theorem pC_inTime (a b c : Int32) (Q : nk_Q) (hq : ∀ h : nk_H, Q (some (.int (f_inTime a b c))) h) : ev_X5_inTime [.ref 0, .int a, .int b, .int c] hC0 Q := by
  all_goals repeat' first
    | refine nk_s ?_
    | refine nk_br.t (by decide) ?_
    | refine nk_br.f (by decide) ?_
    | (refine nk_br.mk (fun _ => ?_) (fun _ => ?_) <;> try (exfalso; simp only [Int32.lt_iff_toInt_lt, Int32.le_iff_toInt_le, li_m9, li_m4, li_m3, li_m2, li_m1, li_0, li_1, li_2, li_3, li_4, li_5, li_6, li_7, li_9, li_10, li_12, li_15, li_16, li_20, li_40, li_99, li_999, show fC0 2 = 0 from rfl, show fC0 3 = 0 from rfl, show fC0 26 = 0 from rfl, show fC0 27 = 0 from rfl, show fC0 28 = 0 from rfl, show fC0 29 = 0 from rfl, show Int32.ofNat 6 = 6 from rfl, show Int32.ofNat 4 = 4 from rfl, show (0 : Int32) - 1 = -1 from rfl, show iR0 18 = (fun _ => 0) from rfl] at *; omega; done))
    | refine nk_bo0 ?_
    | refine nk_bo1 ?_
    | refine And.intro (by unfold vp_in; decide) ?_
    | (fail; refine nk_swx ?_; first | refine nk_sw_d (by decide) (by decide) ?_ | refine nk_sw_i 0 (by decide) (by decide) ?_ | refine nk_sw_i 1 (by decide) (by decide) ?_ | refine nk_sw_i 2 (by decide) (by decide) ?_ | refine nk_sw_i 3 (by decide) (by decide) ?_ | refine nk_sw_i 4 (by decide) (by decide) ?_ | refine nk_sw_i 5 (by decide) (by decide) ?_ | fail)
    | fail
  all_goals first
    | (refine lf hq ?_
       unfold f_inTime
       repeat' split
       all_goals first
         | rfl
         | (exfalso; simp only [Int32.lt_iff_toInt_lt, Int32.le_iff_toInt_le, li_m9, li_m4, li_m3, li_m2, li_m1, li_0, li_1, li_2, li_3, li_4, li_5, li_6, li_7, li_9, li_10, li_12, li_15, li_16, li_20, li_40, li_99, li_999, show fC0 2 = 0 from rfl, show fC0 3 = 0 from rfl, show fC0 26 = 0 from rfl, show fC0 27 = 0 from rfl, show fC0 28 = 0 from rfl, show fC0 29 = 0 from rfl, show Int32.ofNat 6 = 6 from rfl, show Int32.ofNat 4 = 4 from rfl, show (0 : Int32) - 1 = -1 from rfl, show iR0 18 = (fun _ => 0) from rfl] at *; omega))
    | (exfalso; simp only [Int32.lt_iff_toInt_lt, Int32.le_iff_toInt_le, li_m9, li_m4, li_m3, li_m2, li_m1, li_0, li_1, li_2, li_3, li_4, li_5, li_6, li_7, li_9, li_10, li_12, li_15, li_16, li_20, li_40, li_99, li_999, show fC0 2 = 0 from rfl, show fC0 3 = 0 from rfl, show fC0 26 = 0 from rfl, show fC0 27 = 0 from rfl, show fC0 28 = 0 from rfl, show fC0 29 = 0 from rfl, show Int32.ofNat 6 = 6 from rfl, show Int32.ofNat 4 = 4 from rfl, show (0 : Int32) - 1 = -1 from rfl, show iR0 18 = (fun _ => 0) from rfl] at *; omega)

set_option maxRecDepth 100000 in
set_option maxHeartbeats 40000000 in
theorem pC_heap (a b c : Int32) (Q : nk_Q) (hq : ∀ h : nk_H, Q (some (.int (f_heap a b c))) h) : ev_X5_heap [.ref 0, .int a, .int b, .int c] hC0 Q := by
  all_goals rcases sp_0_3 a with rfl | rfl | rfl | rfl | hs_a
  all_goals repeat' first
    | refine nk_s ?_
    | refine nk_br.t (by decide) ?_
    | refine nk_br.f (by decide) ?_
    | (refine nk_br.mk (fun _ => ?_) (fun _ => ?_) <;> try (exfalso; simp only [Int32.lt_iff_toInt_lt, Int32.le_iff_toInt_le, li_m9, li_m4, li_m3, li_m2, li_m1, li_0, li_1, li_2, li_3, li_4, li_5, li_6, li_7, li_9, li_10, li_12, li_15, li_16, li_20, li_40, li_99, li_999, show fC0 2 = 0 from rfl, show fC0 3 = 0 from rfl, show fC0 26 = 0 from rfl, show fC0 27 = 0 from rfl, show fC0 28 = 0 from rfl, show fC0 29 = 0 from rfl, show Int32.ofNat 6 = 6 from rfl, show Int32.ofNat 4 = 4 from rfl, show (0 : Int32) - 1 = -1 from rfl, show iR0 18 = (fun _ => 0) from rfl] at *; omega; done))
    | refine nk_bo0 ?_
    | refine nk_bo1 ?_
    | refine And.intro (by unfold vp_in; decide) ?_
    | (fail; refine nk_swx ?_; first | refine nk_sw_d (by decide) (by decide) ?_ | refine nk_sw_i 0 (by decide) (by decide) ?_ | refine nk_sw_i 1 (by decide) (by decide) ?_ | refine nk_sw_i 2 (by decide) (by decide) ?_ | refine nk_sw_i 3 (by decide) (by decide) ?_ | refine nk_sw_i 4 (by decide) (by decide) ?_ | refine nk_sw_i 5 (by decide) (by decide) ?_ | fail)
    | fail
  all_goals first
    | (refine lf hq ?_
       unfold f_heap
       repeat' split
       all_goals first
         | rfl
         | (exfalso; simp only [Int32.lt_iff_toInt_lt, Int32.le_iff_toInt_le, li_m9, li_m4, li_m3, li_m2, li_m1, li_0, li_1, li_2, li_3, li_4, li_5, li_6, li_7, li_9, li_10, li_12, li_15, li_16, li_20, li_40, li_99, li_999, show fC0 2 = 0 from rfl, show fC0 3 = 0 from rfl, show fC0 26 = 0 from rfl, show fC0 27 = 0 from rfl, show fC0 28 = 0 from rfl, show fC0 29 = 0 from rfl, show Int32.ofNat 6 = 6 from rfl, show Int32.ofNat 4 = 4 from rfl, show (0 : Int32) - 1 = -1 from rfl, show iR0 18 = (fun _ => 0) from rfl] at *; omega))
    | (exfalso; simp only [Int32.lt_iff_toInt_lt, Int32.le_iff_toInt_le, li_m9, li_m4, li_m3, li_m2, li_m1, li_0, li_1, li_2, li_3, li_4, li_5, li_6, li_7, li_9, li_10, li_12, li_15, li_16, li_20, li_40, li_99, li_999, show fC0 2 = 0 from rfl, show fC0 3 = 0 from rfl, show fC0 26 = 0 from rfl, show fC0 27 = 0 from rfl, show fC0 28 = 0 from rfl, show fC0 29 = 0 from rfl, show Int32.ofNat 6 = 6 from rfl, show Int32.ofNat 4 = 4 from rfl, show (0 : Int32) - 1 = -1 from rfl, show iR0 18 = (fun _ => 0) from rfl] at *; omega)

set_option maxRecDepth 100000 in
set_option maxHeartbeats 40000000 in
theorem pC_draw (a b c d : Int32) (Q : nk_Q) (hq : ∀ h : nk_H, Q (some (.int (f_draw a b c d))) h) : ev_X5_draw [.ref 0, .int a, .int b, .int c, .int d] hC0 Q := by
  all_goals rcases sp_0_3 a with rfl | rfl | rfl | rfl | hs_a
  all_goals repeat' first
    | refine nk_s ?_
    | refine nk_br.t (by decide) ?_
    | refine nk_br.f (by decide) ?_
    | (refine nk_br.mk (fun _ => ?_) (fun _ => ?_) <;> try (exfalso; simp only [Int32.lt_iff_toInt_lt, Int32.le_iff_toInt_le, li_m9, li_m4, li_m3, li_m2, li_m1, li_0, li_1, li_2, li_3, li_4, li_5, li_6, li_7, li_9, li_10, li_12, li_15, li_16, li_20, li_40, li_99, li_999, show fC0 2 = 0 from rfl, show fC0 3 = 0 from rfl, show fC0 26 = 0 from rfl, show fC0 27 = 0 from rfl, show fC0 28 = 0 from rfl, show fC0 29 = 0 from rfl, show Int32.ofNat 6 = 6 from rfl, show Int32.ofNat 4 = 4 from rfl, show (0 : Int32) - 1 = -1 from rfl, show iR0 18 = (fun _ => 0) from rfl] at *; omega; done))
    | refine nk_bo0 ?_
    | refine nk_bo1 ?_
    | refine And.intro (by unfold vp_in; decide) ?_
    | (fail; refine nk_swx ?_; first | refine nk_sw_d (by decide) (by decide) ?_ | refine nk_sw_i 0 (by decide) (by decide) ?_ | refine nk_sw_i 1 (by decide) (by decide) ?_ | refine nk_sw_i 2 (by decide) (by decide) ?_ | refine nk_sw_i 3 (by decide) (by decide) ?_ | refine nk_sw_i 4 (by decide) (by decide) ?_ | refine nk_sw_i 5 (by decide) (by decide) ?_ | fail)
    | fail
  all_goals first
    | (refine lf hq ?_
       unfold f_draw
       repeat' split
       all_goals first
         | rfl
         | (exfalso; simp only [Int32.lt_iff_toInt_lt, Int32.le_iff_toInt_le, li_m9, li_m4, li_m3, li_m2, li_m1, li_0, li_1, li_2, li_3, li_4, li_5, li_6, li_7, li_9, li_10, li_12, li_15, li_16, li_20, li_40, li_99, li_999, show fC0 2 = 0 from rfl, show fC0 3 = 0 from rfl, show fC0 26 = 0 from rfl, show fC0 27 = 0 from rfl, show fC0 28 = 0 from rfl, show fC0 29 = 0 from rfl, show Int32.ofNat 6 = 6 from rfl, show Int32.ofNat 4 = 4 from rfl, show (0 : Int32) - 1 = -1 from rfl, show iR0 18 = (fun _ => 0) from rfl] at *; omega))
    | (exfalso; simp only [Int32.lt_iff_toInt_lt, Int32.le_iff_toInt_le, li_m9, li_m4, li_m3, li_m2, li_m1, li_0, li_1, li_2, li_3, li_4, li_5, li_6, li_7, li_9, li_10, li_12, li_15, li_16, li_20, li_40, li_99, li_999, show fC0 2 = 0 from rfl, show fC0 3 = 0 from rfl, show fC0 26 = 0 from rfl, show fC0 27 = 0 from rfl, show fC0 28 = 0 from rfl, show fC0 29 = 0 from rfl, show Int32.ofNat 6 = 6 from rfl, show Int32.ofNat 4 = 4 from rfl, show (0 : Int32) - 1 = -1 from rfl, show iR0 18 = (fun _ => 0) from rfl] at *; omega)

set_option maxRecDepth 100000 in
set_option maxHeartbeats 40000000 in
theorem pC_left (a b : Int32) (Q : nk_Q) (hq : ∀ h : nk_H, Q (some (.int (f_left a b))) h) : ev_X5_left [.ref 0, .int a, .int b] hC0 Q := by
  all_goals rcases sp_0_3 a with rfl | rfl | rfl | rfl | hs_a
  all_goals repeat' first
    | refine nk_s ?_
    | refine nk_br.t (by decide) ?_
    | refine nk_br.f (by decide) ?_
    | (refine nk_br.mk (fun _ => ?_) (fun _ => ?_) <;> try (exfalso; simp only [Int32.lt_iff_toInt_lt, Int32.le_iff_toInt_le, li_m9, li_m4, li_m3, li_m2, li_m1, li_0, li_1, li_2, li_3, li_4, li_5, li_6, li_7, li_9, li_10, li_12, li_15, li_16, li_20, li_40, li_99, li_999, show fC0 2 = 0 from rfl, show fC0 3 = 0 from rfl, show fC0 26 = 0 from rfl, show fC0 27 = 0 from rfl, show fC0 28 = 0 from rfl, show fC0 29 = 0 from rfl, show Int32.ofNat 6 = 6 from rfl, show Int32.ofNat 4 = 4 from rfl, show (0 : Int32) - 1 = -1 from rfl, show iR0 18 = (fun _ => 0) from rfl] at *; omega; done))
    | refine nk_bo0 ?_
    | refine nk_bo1 ?_
    | refine And.intro (by unfold vp_in; decide) ?_
    | (fail; refine nk_swx ?_; first | refine nk_sw_d (by decide) (by decide) ?_ | refine nk_sw_i 0 (by decide) (by decide) ?_ | refine nk_sw_i 1 (by decide) (by decide) ?_ | refine nk_sw_i 2 (by decide) (by decide) ?_ | refine nk_sw_i 3 (by decide) (by decide) ?_ | refine nk_sw_i 4 (by decide) (by decide) ?_ | refine nk_sw_i 5 (by decide) (by decide) ?_ | fail)
    | fail
  all_goals first
    | (refine lf hq ?_
       unfold f_left
       repeat' split
       all_goals first
         | rfl
         | (exfalso; simp only [Int32.lt_iff_toInt_lt, Int32.le_iff_toInt_le, li_m9, li_m4, li_m3, li_m2, li_m1, li_0, li_1, li_2, li_3, li_4, li_5, li_6, li_7, li_9, li_10, li_12, li_15, li_16, li_20, li_40, li_99, li_999, show fC0 2 = 0 from rfl, show fC0 3 = 0 from rfl, show fC0 26 = 0 from rfl, show fC0 27 = 0 from rfl, show fC0 28 = 0 from rfl, show fC0 29 = 0 from rfl, show Int32.ofNat 6 = 6 from rfl, show Int32.ofNat 4 = 4 from rfl, show (0 : Int32) - 1 = -1 from rfl, show iR0 18 = (fun _ => 0) from rfl] at *; omega))
    | (exfalso; simp only [Int32.lt_iff_toInt_lt, Int32.le_iff_toInt_le, li_m9, li_m4, li_m3, li_m2, li_m1, li_0, li_1, li_2, li_3, li_4, li_5, li_6, li_7, li_9, li_10, li_12, li_15, li_16, li_20, li_40, li_99, li_999, show fC0 2 = 0 from rfl, show fC0 3 = 0 from rfl, show fC0 26 = 0 from rfl, show fC0 27 = 0 from rfl, show fC0 28 = 0 from rfl, show fC0 29 = 0 from rfl, show Int32.ofNat 6 = 6 from rfl, show Int32.ofNat 4 = 4 from rfl, show (0 : Int32) - 1 = -1 from rfl, show iR0 18 = (fun _ => 0) from rfl] at *; omega)

set_option maxRecDepth 100000 in
set_option maxHeartbeats 40000000 in
theorem pC_layer (r i : Int32) (Q : nk_Q) (hq : ∀ h : nk_H, Q (some (.int (f_layer r i))) h) : ev_X5_layer [.ref 0, .int r, .int i] hC0 Q := by
  all_goals rcases sp_0_3 r with rfl | rfl | rfl | rfl | hs_r
  all_goals repeat' first
    | refine nk_s ?_
    | refine nk_br.t (by decide) ?_
    | refine nk_br.f (by decide) ?_
    | (refine nk_br.mk (fun _ => ?_) (fun _ => ?_) <;> try (exfalso; simp only [Int32.lt_iff_toInt_lt, Int32.le_iff_toInt_le, li_m9, li_m4, li_m3, li_m2, li_m1, li_0, li_1, li_2, li_3, li_4, li_5, li_6, li_7, li_9, li_10, li_12, li_15, li_16, li_20, li_40, li_99, li_999, show fC0 2 = 0 from rfl, show fC0 3 = 0 from rfl, show fC0 26 = 0 from rfl, show fC0 27 = 0 from rfl, show fC0 28 = 0 from rfl, show fC0 29 = 0 from rfl, show Int32.ofNat 6 = 6 from rfl, show Int32.ofNat 4 = 4 from rfl, show (0 : Int32) - 1 = -1 from rfl, show iR0 18 = (fun _ => 0) from rfl] at *; omega; done))
    | refine nk_bo0 ?_
    | refine nk_bo1 ?_
    | refine And.intro (by unfold vp_in; decide) ?_
    | (fail; refine nk_swx ?_; first | refine nk_sw_d (by decide) (by decide) ?_ | refine nk_sw_i 0 (by decide) (by decide) ?_ | refine nk_sw_i 1 (by decide) (by decide) ?_ | refine nk_sw_i 2 (by decide) (by decide) ?_ | refine nk_sw_i 3 (by decide) (by decide) ?_ | refine nk_sw_i 4 (by decide) (by decide) ?_ | refine nk_sw_i 5 (by decide) (by decide) ?_ | fail)
    | fail
  all_goals first
    | (refine lf hq ?_
       unfold f_layer
       repeat' split
       all_goals first
         | rfl
         | (exfalso; simp only [Int32.lt_iff_toInt_lt, Int32.le_iff_toInt_le, li_m9, li_m4, li_m3, li_m2, li_m1, li_0, li_1, li_2, li_3, li_4, li_5, li_6, li_7, li_9, li_10, li_12, li_15, li_16, li_20, li_40, li_99, li_999, show fC0 2 = 0 from rfl, show fC0 3 = 0 from rfl, show fC0 26 = 0 from rfl, show fC0 27 = 0 from rfl, show fC0 28 = 0 from rfl, show fC0 29 = 0 from rfl, show Int32.ofNat 6 = 6 from rfl, show Int32.ofNat 4 = 4 from rfl, show (0 : Int32) - 1 = -1 from rfl, show iR0 18 = (fun _ => 0) from rfl] at *; omega))
    | (exfalso; simp only [Int32.lt_iff_toInt_lt, Int32.le_iff_toInt_le, li_m9, li_m4, li_m3, li_m2, li_m1, li_0, li_1, li_2, li_3, li_4, li_5, li_6, li_7, li_9, li_10, li_12, li_15, li_16, li_20, li_40, li_99, li_999, show fC0 2 = 0 from rfl, show fC0 3 = 0 from rfl, show fC0 26 = 0 from rfl, show fC0 27 = 0 from rfl, show fC0 28 = 0 from rfl, show fC0 29 = 0 from rfl, show Int32.ofNat 6 = 6 from rfl, show Int32.ofNat 4 = 4 from rfl, show (0 : Int32) - 1 = -1 from rfl, show iR0 18 = (fun _ => 0) from rfl] at *; omega)

set_option maxRecDepth 100000 in
set_option maxHeartbeats 40000000 in
theorem pC_asked (Q : nk_Q) (hq : ∀ h : nk_H, Q (some (.int (f_asked))) h) : ev_X5_asked [.ref 0] hC0 Q := by
  all_goals repeat' first
    | refine nk_s ?_
    | refine nk_br.t (by decide) ?_
    | refine nk_br.f (by decide) ?_
    | (refine nk_br.mk (fun _ => ?_) (fun _ => ?_) <;> try (exfalso; simp only [Int32.lt_iff_toInt_lt, Int32.le_iff_toInt_le, li_m9, li_m4, li_m3, li_m2, li_m1, li_0, li_1, li_2, li_3, li_4, li_5, li_6, li_7, li_9, li_10, li_12, li_15, li_16, li_20, li_40, li_99, li_999, show fC0 2 = 0 from rfl, show fC0 3 = 0 from rfl, show fC0 26 = 0 from rfl, show fC0 27 = 0 from rfl, show fC0 28 = 0 from rfl, show fC0 29 = 0 from rfl, show Int32.ofNat 6 = 6 from rfl, show Int32.ofNat 4 = 4 from rfl, show (0 : Int32) - 1 = -1 from rfl, show iR0 18 = (fun _ => 0) from rfl] at *; omega; done))
    | refine nk_bo0 ?_
    | refine nk_bo1 ?_
    | refine And.intro (by unfold vp_in; decide) ?_
    | (fail; refine nk_swx ?_; first | refine nk_sw_d (by decide) (by decide) ?_ | refine nk_sw_i 0 (by decide) (by decide) ?_ | refine nk_sw_i 1 (by decide) (by decide) ?_ | refine nk_sw_i 2 (by decide) (by decide) ?_ | refine nk_sw_i 3 (by decide) (by decide) ?_ | refine nk_sw_i 4 (by decide) (by decide) ?_ | refine nk_sw_i 5 (by decide) (by decide) ?_ | fail)
    | fail
  all_goals first
    | (refine lf hq ?_
       unfold f_asked
       repeat' split
       all_goals first
         | rfl
         | (exfalso; simp only [Int32.lt_iff_toInt_lt, Int32.le_iff_toInt_le, li_m9, li_m4, li_m3, li_m2, li_m1, li_0, li_1, li_2, li_3, li_4, li_5, li_6, li_7, li_9, li_10, li_12, li_15, li_16, li_20, li_40, li_99, li_999, show fC0 2 = 0 from rfl, show fC0 3 = 0 from rfl, show fC0 26 = 0 from rfl, show fC0 27 = 0 from rfl, show fC0 28 = 0 from rfl, show fC0 29 = 0 from rfl, show Int32.ofNat 6 = 6 from rfl, show Int32.ofNat 4 = 4 from rfl, show (0 : Int32) - 1 = -1 from rfl, show iR0 18 = (fun _ => 0) from rfl] at *; omega))
    | (exfalso; simp only [Int32.lt_iff_toInt_lt, Int32.le_iff_toInt_le, li_m9, li_m4, li_m3, li_m2, li_m1, li_0, li_1, li_2, li_3, li_4, li_5, li_6, li_7, li_9, li_10, li_12, li_15, li_16, li_20, li_40, li_99, li_999, show fC0 2 = 0 from rfl, show fC0 3 = 0 from rfl, show fC0 26 = 0 from rfl, show fC0 27 = 0 from rfl, show fC0 28 = 0 from rfl, show fC0 29 = 0 from rfl, show Int32.ofNat 6 = 6 from rfl, show Int32.ofNat 4 = 4 from rfl, show (0 : Int32) - 1 = -1 from rfl, show iR0 18 = (fun _ => 0) from rfl] at *; omega)

set_option maxRecDepth 100000 in
set_option maxHeartbeats 40000000 in
theorem pC_count (a : Int32) (Q : nk_Q) (hq : ∀ h : nk_H, Q (some (.int (f_count a))) h) : ev_X5_count [.ref 0, .int a] hC0 Q := by
  all_goals rcases sp_0_6 a with rfl | rfl | rfl | rfl | rfl | rfl | rfl | hs_a
  all_goals repeat' first
    | refine nk_s ?_
    | refine nk_br.t (by decide) ?_
    | refine nk_br.f (by decide) ?_
    | (refine nk_br.mk (fun _ => ?_) (fun _ => ?_) <;> try (exfalso; simp only [Int32.lt_iff_toInt_lt, Int32.le_iff_toInt_le, li_m9, li_m4, li_m3, li_m2, li_m1, li_0, li_1, li_2, li_3, li_4, li_5, li_6, li_7, li_9, li_10, li_12, li_15, li_16, li_20, li_40, li_99, li_999, show fC0 2 = 0 from rfl, show fC0 3 = 0 from rfl, show fC0 26 = 0 from rfl, show fC0 27 = 0 from rfl, show fC0 28 = 0 from rfl, show fC0 29 = 0 from rfl, show Int32.ofNat 6 = 6 from rfl, show Int32.ofNat 4 = 4 from rfl, show (0 : Int32) - 1 = -1 from rfl, show iR0 18 = (fun _ => 0) from rfl] at *; omega; done))
    | refine nk_bo0 ?_
    | refine nk_bo1 ?_
    | refine And.intro (by unfold vp_in; decide) ?_
    | (fail; refine nk_swx ?_; first | refine nk_sw_d (by decide) (by decide) ?_ | refine nk_sw_i 0 (by decide) (by decide) ?_ | refine nk_sw_i 1 (by decide) (by decide) ?_ | refine nk_sw_i 2 (by decide) (by decide) ?_ | refine nk_sw_i 3 (by decide) (by decide) ?_ | refine nk_sw_i 4 (by decide) (by decide) ?_ | refine nk_sw_i 5 (by decide) (by decide) ?_ | fail)
    | fail
  · refine And.intro (fun h => ?_) (fun j t hj hx => ?_)
    · exact absurd h (by decide)
    obtain rfl : j = 0 := by
      simp only [li_0] at hx
      omega
    cases hj
    repeat' first
      | refine nk_s ?_
      | refine nk_br.t (by decide) ?_
      | refine nk_br.f (by decide) ?_
      | (refine nk_br.mk (fun _ => ?_) (fun _ => ?_) <;> try (exfalso; simp only [Int32.lt_iff_toInt_lt, Int32.le_iff_toInt_le, li_m9, li_m4, li_m3, li_m2, li_m1, li_0, li_1, li_2, li_3, li_4, li_5, li_6, li_7, li_9, li_10, li_12, li_15, li_16, li_20, li_40, li_99, li_999, show fC0 2 = 0 from rfl, show fC0 3 = 0 from rfl, show fC0 26 = 0 from rfl, show fC0 27 = 0 from rfl, show fC0 28 = 0 from rfl, show fC0 29 = 0 from rfl, show Int32.ofNat 6 = 6 from rfl, show Int32.ofNat 4 = 4 from rfl, show (0 : Int32) - 1 = -1 from rfl, show iR0 18 = (fun _ => 0) from rfl] at *; omega; done))
      | refine nk_bo0 ?_
      | refine nk_bo1 ?_
      | refine And.intro (by unfold vp_in; decide) ?_
      | (fail; refine nk_swx ?_; first | refine nk_sw_d (by decide) (by decide) ?_ | refine nk_sw_i 0 (by decide) (by decide) ?_ | refine nk_sw_i 1 (by decide) (by decide) ?_ | refine nk_sw_i 2 (by decide) (by decide) ?_ | refine nk_sw_i 3 (by decide) (by decide) ?_ | refine nk_sw_i 4 (by decide) (by decide) ?_ | refine nk_sw_i 5 (by decide) (by decide) ?_ | fail)
      | fail
    all_goals first
      | (refine lf hq ?_
         unfold f_count
         repeat' split
         all_goals first
           | rfl
           | (exfalso; simp only [Int32.lt_iff_toInt_lt, Int32.le_iff_toInt_le, li_m9, li_m4, li_m3, li_m2, li_m1, li_0, li_1, li_2, li_3, li_4, li_5, li_6, li_7, li_9, li_10, li_12, li_15, li_16, li_20, li_40, li_99, li_999, show fC0 2 = 0 from rfl, show fC0 3 = 0 from rfl, show fC0 26 = 0 from rfl, show fC0 27 = 0 from rfl, show fC0 28 = 0 from rfl, show fC0 29 = 0 from rfl, show Int32.ofNat 6 = 6 from rfl, show Int32.ofNat 4 = 4 from rfl, show (0 : Int32) - 1 = -1 from rfl, show iR0 18 = (fun _ => 0) from rfl] at *; omega))
      | (exfalso; simp only [Int32.lt_iff_toInt_lt, Int32.le_iff_toInt_le, li_m9, li_m4, li_m3, li_m2, li_m1, li_0, li_1, li_2, li_3, li_4, li_5, li_6, li_7, li_9, li_10, li_12, li_15, li_16, li_20, li_40, li_99, li_999, show fC0 2 = 0 from rfl, show fC0 3 = 0 from rfl, show fC0 26 = 0 from rfl, show fC0 27 = 0 from rfl, show fC0 28 = 0 from rfl, show fC0 29 = 0 from rfl, show Int32.ofNat 6 = 6 from rfl, show Int32.ofNat 4 = 4 from rfl, show (0 : Int32) - 1 = -1 from rfl, show iR0 18 = (fun _ => 0) from rfl] at *; omega)
  · refine And.intro (fun h => ?_) (fun j t hj hx => ?_)
    · exact absurd h (by decide)
    obtain rfl : j = 1 := by
      simp only [li_1] at hx
      omega
    cases hj
    repeat' first
      | refine nk_s ?_
      | refine nk_br.t (by decide) ?_
      | refine nk_br.f (by decide) ?_
      | (refine nk_br.mk (fun _ => ?_) (fun _ => ?_) <;> try (exfalso; simp only [Int32.lt_iff_toInt_lt, Int32.le_iff_toInt_le, li_m9, li_m4, li_m3, li_m2, li_m1, li_0, li_1, li_2, li_3, li_4, li_5, li_6, li_7, li_9, li_10, li_12, li_15, li_16, li_20, li_40, li_99, li_999, show fC0 2 = 0 from rfl, show fC0 3 = 0 from rfl, show fC0 26 = 0 from rfl, show fC0 27 = 0 from rfl, show fC0 28 = 0 from rfl, show fC0 29 = 0 from rfl, show Int32.ofNat 6 = 6 from rfl, show Int32.ofNat 4 = 4 from rfl, show (0 : Int32) - 1 = -1 from rfl, show iR0 18 = (fun _ => 0) from rfl] at *; omega; done))
      | refine nk_bo0 ?_
      | refine nk_bo1 ?_
      | refine And.intro (by unfold vp_in; decide) ?_
      | (fail; refine nk_swx ?_; first | refine nk_sw_d (by decide) (by decide) ?_ | refine nk_sw_i 0 (by decide) (by decide) ?_ | refine nk_sw_i 1 (by decide) (by decide) ?_ | refine nk_sw_i 2 (by decide) (by decide) ?_ | refine nk_sw_i 3 (by decide) (by decide) ?_ | refine nk_sw_i 4 (by decide) (by decide) ?_ | refine nk_sw_i 5 (by decide) (by decide) ?_ | fail)
      | fail
    all_goals first
      | (refine lf hq ?_
         unfold f_count
         repeat' split
         all_goals first
           | rfl
           | (exfalso; simp only [Int32.lt_iff_toInt_lt, Int32.le_iff_toInt_le, li_m9, li_m4, li_m3, li_m2, li_m1, li_0, li_1, li_2, li_3, li_4, li_5, li_6, li_7, li_9, li_10, li_12, li_15, li_16, li_20, li_40, li_99, li_999, show fC0 2 = 0 from rfl, show fC0 3 = 0 from rfl, show fC0 26 = 0 from rfl, show fC0 27 = 0 from rfl, show fC0 28 = 0 from rfl, show fC0 29 = 0 from rfl, show Int32.ofNat 6 = 6 from rfl, show Int32.ofNat 4 = 4 from rfl, show (0 : Int32) - 1 = -1 from rfl, show iR0 18 = (fun _ => 0) from rfl] at *; omega))
      | (exfalso; simp only [Int32.lt_iff_toInt_lt, Int32.le_iff_toInt_le, li_m9, li_m4, li_m3, li_m2, li_m1, li_0, li_1, li_2, li_3, li_4, li_5, li_6, li_7, li_9, li_10, li_12, li_15, li_16, li_20, li_40, li_99, li_999, show fC0 2 = 0 from rfl, show fC0 3 = 0 from rfl, show fC0 26 = 0 from rfl, show fC0 27 = 0 from rfl, show fC0 28 = 0 from rfl, show fC0 29 = 0 from rfl, show Int32.ofNat 6 = 6 from rfl, show Int32.ofNat 4 = 4 from rfl, show (0 : Int32) - 1 = -1 from rfl, show iR0 18 = (fun _ => 0) from rfl] at *; omega)
  · refine And.intro (fun h => ?_) (fun j t hj hx => ?_)
    · exact absurd h (by decide)
    obtain rfl : j = 2 := by
      simp only [li_2] at hx
      omega
    cases hj
    repeat' first
      | refine nk_s ?_
      | refine nk_br.t (by decide) ?_
      | refine nk_br.f (by decide) ?_
      | (refine nk_br.mk (fun _ => ?_) (fun _ => ?_) <;> try (exfalso; simp only [Int32.lt_iff_toInt_lt, Int32.le_iff_toInt_le, li_m9, li_m4, li_m3, li_m2, li_m1, li_0, li_1, li_2, li_3, li_4, li_5, li_6, li_7, li_9, li_10, li_12, li_15, li_16, li_20, li_40, li_99, li_999, show fC0 2 = 0 from rfl, show fC0 3 = 0 from rfl, show fC0 26 = 0 from rfl, show fC0 27 = 0 from rfl, show fC0 28 = 0 from rfl, show fC0 29 = 0 from rfl, show Int32.ofNat 6 = 6 from rfl, show Int32.ofNat 4 = 4 from rfl, show (0 : Int32) - 1 = -1 from rfl, show iR0 18 = (fun _ => 0) from rfl] at *; omega; done))
      | refine nk_bo0 ?_
      | refine nk_bo1 ?_
      | refine And.intro (by unfold vp_in; decide) ?_
      | (fail; refine nk_swx ?_; first | refine nk_sw_d (by decide) (by decide) ?_ | refine nk_sw_i 0 (by decide) (by decide) ?_ | refine nk_sw_i 1 (by decide) (by decide) ?_ | refine nk_sw_i 2 (by decide) (by decide) ?_ | refine nk_sw_i 3 (by decide) (by decide) ?_ | refine nk_sw_i 4 (by decide) (by decide) ?_ | refine nk_sw_i 5 (by decide) (by decide) ?_ | fail)
      | fail
    all_goals first
      | (refine lf hq ?_
         unfold f_count
         repeat' split
         all_goals first
           | rfl
           | (exfalso; simp only [Int32.lt_iff_toInt_lt, Int32.le_iff_toInt_le, li_m9, li_m4, li_m3, li_m2, li_m1, li_0, li_1, li_2, li_3, li_4, li_5, li_6, li_7, li_9, li_10, li_12, li_15, li_16, li_20, li_40, li_99, li_999, show fC0 2 = 0 from rfl, show fC0 3 = 0 from rfl, show fC0 26 = 0 from rfl, show fC0 27 = 0 from rfl, show fC0 28 = 0 from rfl, show fC0 29 = 0 from rfl, show Int32.ofNat 6 = 6 from rfl, show Int32.ofNat 4 = 4 from rfl, show (0 : Int32) - 1 = -1 from rfl, show iR0 18 = (fun _ => 0) from rfl] at *; omega))
      | (exfalso; simp only [Int32.lt_iff_toInt_lt, Int32.le_iff_toInt_le, li_m9, li_m4, li_m3, li_m2, li_m1, li_0, li_1, li_2, li_3, li_4, li_5, li_6, li_7, li_9, li_10, li_12, li_15, li_16, li_20, li_40, li_99, li_999, show fC0 2 = 0 from rfl, show fC0 3 = 0 from rfl, show fC0 26 = 0 from rfl, show fC0 27 = 0 from rfl, show fC0 28 = 0 from rfl, show fC0 29 = 0 from rfl, show Int32.ofNat 6 = 6 from rfl, show Int32.ofNat 4 = 4 from rfl, show (0 : Int32) - 1 = -1 from rfl, show iR0 18 = (fun _ => 0) from rfl] at *; omega)
  · refine And.intro (fun h => ?_) (fun j t hj hx => ?_)
    · exact absurd h (by decide)
    obtain rfl : j = 3 := by
      simp only [li_3] at hx
      omega
    cases hj
    repeat' first
      | refine nk_s ?_
      | refine nk_br.t (by decide) ?_
      | refine nk_br.f (by decide) ?_
      | (refine nk_br.mk (fun _ => ?_) (fun _ => ?_) <;> try (exfalso; simp only [Int32.lt_iff_toInt_lt, Int32.le_iff_toInt_le, li_m9, li_m4, li_m3, li_m2, li_m1, li_0, li_1, li_2, li_3, li_4, li_5, li_6, li_7, li_9, li_10, li_12, li_15, li_16, li_20, li_40, li_99, li_999, show fC0 2 = 0 from rfl, show fC0 3 = 0 from rfl, show fC0 26 = 0 from rfl, show fC0 27 = 0 from rfl, show fC0 28 = 0 from rfl, show fC0 29 = 0 from rfl, show Int32.ofNat 6 = 6 from rfl, show Int32.ofNat 4 = 4 from rfl, show (0 : Int32) - 1 = -1 from rfl, show iR0 18 = (fun _ => 0) from rfl] at *; omega; done))
      | refine nk_bo0 ?_
      | refine nk_bo1 ?_
      | refine And.intro (by unfold vp_in; decide) ?_
      | (fail; refine nk_swx ?_; first | refine nk_sw_d (by decide) (by decide) ?_ | refine nk_sw_i 0 (by decide) (by decide) ?_ | refine nk_sw_i 1 (by decide) (by decide) ?_ | refine nk_sw_i 2 (by decide) (by decide) ?_ | refine nk_sw_i 3 (by decide) (by decide) ?_ | refine nk_sw_i 4 (by decide) (by decide) ?_ | refine nk_sw_i 5 (by decide) (by decide) ?_ | fail)
      | fail
    all_goals first
      | (refine lf hq ?_
         unfold f_count
         repeat' split
         all_goals first
           | rfl
           | (exfalso; simp only [Int32.lt_iff_toInt_lt, Int32.le_iff_toInt_le, li_m9, li_m4, li_m3, li_m2, li_m1, li_0, li_1, li_2, li_3, li_4, li_5, li_6, li_7, li_9, li_10, li_12, li_15, li_16, li_20, li_40, li_99, li_999, show fC0 2 = 0 from rfl, show fC0 3 = 0 from rfl, show fC0 26 = 0 from rfl, show fC0 27 = 0 from rfl, show fC0 28 = 0 from rfl, show fC0 29 = 0 from rfl, show Int32.ofNat 6 = 6 from rfl, show Int32.ofNat 4 = 4 from rfl, show (0 : Int32) - 1 = -1 from rfl, show iR0 18 = (fun _ => 0) from rfl] at *; omega))
      | (exfalso; simp only [Int32.lt_iff_toInt_lt, Int32.le_iff_toInt_le, li_m9, li_m4, li_m3, li_m2, li_m1, li_0, li_1, li_2, li_3, li_4, li_5, li_6, li_7, li_9, li_10, li_12, li_15, li_16, li_20, li_40, li_99, li_999, show fC0 2 = 0 from rfl, show fC0 3 = 0 from rfl, show fC0 26 = 0 from rfl, show fC0 27 = 0 from rfl, show fC0 28 = 0 from rfl, show fC0 29 = 0 from rfl, show Int32.ofNat 6 = 6 from rfl, show Int32.ofNat 4 = 4 from rfl, show (0 : Int32) - 1 = -1 from rfl, show iR0 18 = (fun _ => 0) from rfl] at *; omega)
  · refine And.intro (fun h => ?_) (fun j t hj hx => ?_)
    · exact absurd h (by decide)
    obtain rfl : j = 4 := by
      simp only [li_4] at hx
      omega
    cases hj
    repeat' first
      | refine nk_s ?_
      | refine nk_br.t (by decide) ?_
      | refine nk_br.f (by decide) ?_
      | (refine nk_br.mk (fun _ => ?_) (fun _ => ?_) <;> try (exfalso; simp only [Int32.lt_iff_toInt_lt, Int32.le_iff_toInt_le, li_m9, li_m4, li_m3, li_m2, li_m1, li_0, li_1, li_2, li_3, li_4, li_5, li_6, li_7, li_9, li_10, li_12, li_15, li_16, li_20, li_40, li_99, li_999, show fC0 2 = 0 from rfl, show fC0 3 = 0 from rfl, show fC0 26 = 0 from rfl, show fC0 27 = 0 from rfl, show fC0 28 = 0 from rfl, show fC0 29 = 0 from rfl, show Int32.ofNat 6 = 6 from rfl, show Int32.ofNat 4 = 4 from rfl, show (0 : Int32) - 1 = -1 from rfl, show iR0 18 = (fun _ => 0) from rfl] at *; omega; done))
      | refine nk_bo0 ?_
      | refine nk_bo1 ?_
      | refine And.intro (by unfold vp_in; decide) ?_
      | (fail; refine nk_swx ?_; first | refine nk_sw_d (by decide) (by decide) ?_ | refine nk_sw_i 0 (by decide) (by decide) ?_ | refine nk_sw_i 1 (by decide) (by decide) ?_ | refine nk_sw_i 2 (by decide) (by decide) ?_ | refine nk_sw_i 3 (by decide) (by decide) ?_ | refine nk_sw_i 4 (by decide) (by decide) ?_ | refine nk_sw_i 5 (by decide) (by decide) ?_ | fail)
      | fail
    all_goals first
      | (refine lf hq ?_
         unfold f_count
         repeat' split
         all_goals first
           | rfl
           | (exfalso; simp only [Int32.lt_iff_toInt_lt, Int32.le_iff_toInt_le, li_m9, li_m4, li_m3, li_m2, li_m1, li_0, li_1, li_2, li_3, li_4, li_5, li_6, li_7, li_9, li_10, li_12, li_15, li_16, li_20, li_40, li_99, li_999, show fC0 2 = 0 from rfl, show fC0 3 = 0 from rfl, show fC0 26 = 0 from rfl, show fC0 27 = 0 from rfl, show fC0 28 = 0 from rfl, show fC0 29 = 0 from rfl, show Int32.ofNat 6 = 6 from rfl, show Int32.ofNat 4 = 4 from rfl, show (0 : Int32) - 1 = -1 from rfl, show iR0 18 = (fun _ => 0) from rfl] at *; omega))
      | (exfalso; simp only [Int32.lt_iff_toInt_lt, Int32.le_iff_toInt_le, li_m9, li_m4, li_m3, li_m2, li_m1, li_0, li_1, li_2, li_3, li_4, li_5, li_6, li_7, li_9, li_10, li_12, li_15, li_16, li_20, li_40, li_99, li_999, show fC0 2 = 0 from rfl, show fC0 3 = 0 from rfl, show fC0 26 = 0 from rfl, show fC0 27 = 0 from rfl, show fC0 28 = 0 from rfl, show fC0 29 = 0 from rfl, show Int32.ofNat 6 = 6 from rfl, show Int32.ofNat 4 = 4 from rfl, show (0 : Int32) - 1 = -1 from rfl, show iR0 18 = (fun _ => 0) from rfl] at *; omega)
  · refine And.intro (fun h => ?_) (fun j t hj hx => ?_)
    · exact absurd h (by decide)
    obtain rfl : j = 5 := by
      simp only [li_5] at hx
      omega
    cases hj
    repeat' first
      | refine nk_s ?_
      | refine nk_br.t (by decide) ?_
      | refine nk_br.f (by decide) ?_
      | (refine nk_br.mk (fun _ => ?_) (fun _ => ?_) <;> try (exfalso; simp only [Int32.lt_iff_toInt_lt, Int32.le_iff_toInt_le, li_m9, li_m4, li_m3, li_m2, li_m1, li_0, li_1, li_2, li_3, li_4, li_5, li_6, li_7, li_9, li_10, li_12, li_15, li_16, li_20, li_40, li_99, li_999, show fC0 2 = 0 from rfl, show fC0 3 = 0 from rfl, show fC0 26 = 0 from rfl, show fC0 27 = 0 from rfl, show fC0 28 = 0 from rfl, show fC0 29 = 0 from rfl, show Int32.ofNat 6 = 6 from rfl, show Int32.ofNat 4 = 4 from rfl, show (0 : Int32) - 1 = -1 from rfl, show iR0 18 = (fun _ => 0) from rfl] at *; omega; done))
      | refine nk_bo0 ?_
      | refine nk_bo1 ?_
      | refine And.intro (by unfold vp_in; decide) ?_
      | (fail; refine nk_swx ?_; first | refine nk_sw_d (by decide) (by decide) ?_ | refine nk_sw_i 0 (by decide) (by decide) ?_ | refine nk_sw_i 1 (by decide) (by decide) ?_ | refine nk_sw_i 2 (by decide) (by decide) ?_ | refine nk_sw_i 3 (by decide) (by decide) ?_ | refine nk_sw_i 4 (by decide) (by decide) ?_ | refine nk_sw_i 5 (by decide) (by decide) ?_ | fail)
      | fail
    all_goals first
      | (refine lf hq ?_
         unfold f_count
         repeat' split
         all_goals first
           | rfl
           | (exfalso; simp only [Int32.lt_iff_toInt_lt, Int32.le_iff_toInt_le, li_m9, li_m4, li_m3, li_m2, li_m1, li_0, li_1, li_2, li_3, li_4, li_5, li_6, li_7, li_9, li_10, li_12, li_15, li_16, li_20, li_40, li_99, li_999, show fC0 2 = 0 from rfl, show fC0 3 = 0 from rfl, show fC0 26 = 0 from rfl, show fC0 27 = 0 from rfl, show fC0 28 = 0 from rfl, show fC0 29 = 0 from rfl, show Int32.ofNat 6 = 6 from rfl, show Int32.ofNat 4 = 4 from rfl, show (0 : Int32) - 1 = -1 from rfl, show iR0 18 = (fun _ => 0) from rfl] at *; omega))
      | (exfalso; simp only [Int32.lt_iff_toInt_lt, Int32.le_iff_toInt_le, li_m9, li_m4, li_m3, li_m2, li_m1, li_0, li_1, li_2, li_3, li_4, li_5, li_6, li_7, li_9, li_10, li_12, li_15, li_16, li_20, li_40, li_99, li_999, show fC0 2 = 0 from rfl, show fC0 3 = 0 from rfl, show fC0 26 = 0 from rfl, show fC0 27 = 0 from rfl, show fC0 28 = 0 from rfl, show fC0 29 = 0 from rfl, show Int32.ofNat 6 = 6 from rfl, show Int32.ofNat 4 = 4 from rfl, show (0 : Int32) - 1 = -1 from rfl, show iR0 18 = (fun _ => 0) from rfl] at *; omega)
  · refine And.intro (fun h => ?_) (fun j t hj hx => ?_)
    rotate_left
    · obtain rfl : j = 6 := by
        simp only [li_6] at hx
        omega
      cases hj
    repeat' first
      | refine nk_s ?_
      | refine nk_br.t (by decide) ?_
      | refine nk_br.f (by decide) ?_
      | (refine nk_br.mk (fun _ => ?_) (fun _ => ?_) <;> try (exfalso; simp only [Int32.lt_iff_toInt_lt, Int32.le_iff_toInt_le, li_m9, li_m4, li_m3, li_m2, li_m1, li_0, li_1, li_2, li_3, li_4, li_5, li_6, li_7, li_9, li_10, li_12, li_15, li_16, li_20, li_40, li_99, li_999, show fC0 2 = 0 from rfl, show fC0 3 = 0 from rfl, show fC0 26 = 0 from rfl, show fC0 27 = 0 from rfl, show fC0 28 = 0 from rfl, show fC0 29 = 0 from rfl, show Int32.ofNat 6 = 6 from rfl, show Int32.ofNat 4 = 4 from rfl, show (0 : Int32) - 1 = -1 from rfl, show iR0 18 = (fun _ => 0) from rfl] at *; omega; done))
      | refine nk_bo0 ?_
      | refine nk_bo1 ?_
      | refine And.intro (by unfold vp_in; decide) ?_
      | (fail; refine nk_swx ?_; first | refine nk_sw_d (by decide) (by decide) ?_ | refine nk_sw_i 0 (by decide) (by decide) ?_ | refine nk_sw_i 1 (by decide) (by decide) ?_ | refine nk_sw_i 2 (by decide) (by decide) ?_ | refine nk_sw_i 3 (by decide) (by decide) ?_ | refine nk_sw_i 4 (by decide) (by decide) ?_ | refine nk_sw_i 5 (by decide) (by decide) ?_ | fail)
      | fail
    all_goals first
      | (refine lf hq ?_
         unfold f_count
         repeat' split
         all_goals first
           | rfl
           | (exfalso; simp only [Int32.lt_iff_toInt_lt, Int32.le_iff_toInt_le, li_m9, li_m4, li_m3, li_m2, li_m1, li_0, li_1, li_2, li_3, li_4, li_5, li_6, li_7, li_9, li_10, li_12, li_15, li_16, li_20, li_40, li_99, li_999, show fC0 2 = 0 from rfl, show fC0 3 = 0 from rfl, show fC0 26 = 0 from rfl, show fC0 27 = 0 from rfl, show fC0 28 = 0 from rfl, show fC0 29 = 0 from rfl, show Int32.ofNat 6 = 6 from rfl, show Int32.ofNat 4 = 4 from rfl, show (0 : Int32) - 1 = -1 from rfl, show iR0 18 = (fun _ => 0) from rfl] at *; omega))
      | (exfalso; simp only [Int32.lt_iff_toInt_lt, Int32.le_iff_toInt_le, li_m9, li_m4, li_m3, li_m2, li_m1, li_0, li_1, li_2, li_3, li_4, li_5, li_6, li_7, li_9, li_10, li_12, li_15, li_16, li_20, li_40, li_99, li_999, show fC0 2 = 0 from rfl, show fC0 3 = 0 from rfl, show fC0 26 = 0 from rfl, show fC0 27 = 0 from rfl, show fC0 28 = 0 from rfl, show fC0 29 = 0 from rfl, show Int32.ofNat 6 = 6 from rfl, show Int32.ofNat 4 = 4 from rfl, show (0 : Int32) - 1 = -1 from rfl, show iR0 18 = (fun _ => 0) from rfl] at *; omega)
  all_goals first
    | (refine lf hq ?_
       unfold f_count
       repeat' split
       all_goals first
         | rfl
         | (exfalso; simp only [Int32.lt_iff_toInt_lt, Int32.le_iff_toInt_le, li_m9, li_m4, li_m3, li_m2, li_m1, li_0, li_1, li_2, li_3, li_4, li_5, li_6, li_7, li_9, li_10, li_12, li_15, li_16, li_20, li_40, li_99, li_999, show fC0 2 = 0 from rfl, show fC0 3 = 0 from rfl, show fC0 26 = 0 from rfl, show fC0 27 = 0 from rfl, show fC0 28 = 0 from rfl, show fC0 29 = 0 from rfl, show Int32.ofNat 6 = 6 from rfl, show Int32.ofNat 4 = 4 from rfl, show (0 : Int32) - 1 = -1 from rfl, show iR0 18 = (fun _ => 0) from rfl] at *; omega))
    | (exfalso; simp only [Int32.lt_iff_toInt_lt, Int32.le_iff_toInt_le, li_m9, li_m4, li_m3, li_m2, li_m1, li_0, li_1, li_2, li_3, li_4, li_5, li_6, li_7, li_9, li_10, li_12, li_15, li_16, li_20, li_40, li_99, li_999, show fC0 2 = 0 from rfl, show fC0 3 = 0 from rfl, show fC0 26 = 0 from rfl, show fC0 27 = 0 from rfl, show fC0 28 = 0 from rfl, show fC0 29 = 0 from rfl, show Int32.ofNat 6 = 6 from rfl, show Int32.ofNat 4 = 4 from rfl, show (0 : Int32) - 1 = -1 from rfl, show iR0 18 = (fun _ => 0) from rfl] at *; omega)

set_option maxRecDepth 100000 in
set_option maxHeartbeats 40000000 in
theorem pC_finding (Q : nk_Q) (hq : ∀ h : nk_H, Q (some (.int (f_finding))) h) : ev_X5_finding [.ref 0] hC0 Q := by
  all_goals repeat' first
    | refine nk_s ?_
    | refine nk_br.t (by decide) ?_
    | refine nk_br.f (by decide) ?_
    | (refine nk_br.mk (fun _ => ?_) (fun _ => ?_) <;> try (exfalso; simp only [Int32.lt_iff_toInt_lt, Int32.le_iff_toInt_le, li_m9, li_m4, li_m3, li_m2, li_m1, li_0, li_1, li_2, li_3, li_4, li_5, li_6, li_7, li_9, li_10, li_12, li_15, li_16, li_20, li_40, li_99, li_999, show fC0 2 = 0 from rfl, show fC0 3 = 0 from rfl, show fC0 26 = 0 from rfl, show fC0 27 = 0 from rfl, show fC0 28 = 0 from rfl, show fC0 29 = 0 from rfl, show Int32.ofNat 6 = 6 from rfl, show Int32.ofNat 4 = 4 from rfl, show (0 : Int32) - 1 = -1 from rfl, show iR0 18 = (fun _ => 0) from rfl] at *; omega; done))
    | refine nk_bo0 ?_
    | refine nk_bo1 ?_
    | refine And.intro (by unfold vp_in; decide) ?_
    | (fail; refine nk_swx ?_; first | refine nk_sw_d (by decide) (by decide) ?_ | refine nk_sw_i 0 (by decide) (by decide) ?_ | refine nk_sw_i 1 (by decide) (by decide) ?_ | refine nk_sw_i 2 (by decide) (by decide) ?_ | refine nk_sw_i 3 (by decide) (by decide) ?_ | refine nk_sw_i 4 (by decide) (by decide) ?_ | refine nk_sw_i 5 (by decide) (by decide) ?_ | fail)
    | fail
  all_goals first
    | (refine lf hq ?_
       unfold f_finding
       repeat' split
       all_goals first
         | rfl
         | (exfalso; simp only [Int32.lt_iff_toInt_lt, Int32.le_iff_toInt_le, li_m9, li_m4, li_m3, li_m2, li_m1, li_0, li_1, li_2, li_3, li_4, li_5, li_6, li_7, li_9, li_10, li_12, li_15, li_16, li_20, li_40, li_99, li_999, show fC0 2 = 0 from rfl, show fC0 3 = 0 from rfl, show fC0 26 = 0 from rfl, show fC0 27 = 0 from rfl, show fC0 28 = 0 from rfl, show fC0 29 = 0 from rfl, show Int32.ofNat 6 = 6 from rfl, show Int32.ofNat 4 = 4 from rfl, show (0 : Int32) - 1 = -1 from rfl, show iR0 18 = (fun _ => 0) from rfl] at *; omega))
    | (exfalso; simp only [Int32.lt_iff_toInt_lt, Int32.le_iff_toInt_le, li_m9, li_m4, li_m3, li_m2, li_m1, li_0, li_1, li_2, li_3, li_4, li_5, li_6, li_7, li_9, li_10, li_12, li_15, li_16, li_20, li_40, li_99, li_999, show fC0 2 = 0 from rfl, show fC0 3 = 0 from rfl, show fC0 26 = 0 from rfl, show fC0 27 = 0 from rfl, show fC0 28 = 0 from rfl, show fC0 29 = 0 from rfl, show Int32.ofNat 6 = 6 from rfl, show Int32.ofNat 4 = 4 from rfl, show (0 : Int32) - 1 = -1 from rfl, show iR0 18 = (fun _ => 0) from rfl] at *; omega)

set_option maxRecDepth 100000 in
set_option maxHeartbeats 40000000 in
theorem pC_findings (a : Int32) (Q : nk_Q) (hq : ∀ h : nk_H, Q (some (.int (f_findings a))) h) : ev_X5_findings [.ref 0, .int a] hC0 Q := by
  all_goals rcases sp_1_5 a with rfl | rfl | rfl | rfl | rfl | hs_a
  all_goals repeat' first
    | refine nk_s ?_
    | refine nk_br.t (by decide) ?_
    | refine nk_br.f (by decide) ?_
    | (refine nk_br.mk (fun _ => ?_) (fun _ => ?_) <;> try (exfalso; simp only [Int32.lt_iff_toInt_lt, Int32.le_iff_toInt_le, li_m9, li_m4, li_m3, li_m2, li_m1, li_0, li_1, li_2, li_3, li_4, li_5, li_6, li_7, li_9, li_10, li_12, li_15, li_16, li_20, li_40, li_99, li_999, show fC0 2 = 0 from rfl, show fC0 3 = 0 from rfl, show fC0 26 = 0 from rfl, show fC0 27 = 0 from rfl, show fC0 28 = 0 from rfl, show fC0 29 = 0 from rfl, show Int32.ofNat 6 = 6 from rfl, show Int32.ofNat 4 = 4 from rfl, show (0 : Int32) - 1 = -1 from rfl, show iR0 18 = (fun _ => 0) from rfl] at *; omega; done))
    | refine nk_bo0 ?_
    | refine nk_bo1 ?_
    | refine And.intro (by unfold vp_in; decide) ?_
    | (fail; refine nk_swx ?_; first | refine nk_sw_d (by decide) (by decide) ?_ | refine nk_sw_i 0 (by decide) (by decide) ?_ | refine nk_sw_i 1 (by decide) (by decide) ?_ | refine nk_sw_i 2 (by decide) (by decide) ?_ | refine nk_sw_i 3 (by decide) (by decide) ?_ | refine nk_sw_i 4 (by decide) (by decide) ?_ | refine nk_sw_i 5 (by decide) (by decide) ?_ | fail)
    | fail
  all_goals first
    | (refine lf hq ?_
       unfold f_findings
       repeat' split
       all_goals first
         | rfl
         | (exfalso; simp only [Int32.lt_iff_toInt_lt, Int32.le_iff_toInt_le, li_m9, li_m4, li_m3, li_m2, li_m1, li_0, li_1, li_2, li_3, li_4, li_5, li_6, li_7, li_9, li_10, li_12, li_15, li_16, li_20, li_40, li_99, li_999, show fC0 2 = 0 from rfl, show fC0 3 = 0 from rfl, show fC0 26 = 0 from rfl, show fC0 27 = 0 from rfl, show fC0 28 = 0 from rfl, show fC0 29 = 0 from rfl, show Int32.ofNat 6 = 6 from rfl, show Int32.ofNat 4 = 4 from rfl, show (0 : Int32) - 1 = -1 from rfl, show iR0 18 = (fun _ => 0) from rfl] at *; omega))
    | (exfalso; simp only [Int32.lt_iff_toInt_lt, Int32.le_iff_toInt_le, li_m9, li_m4, li_m3, li_m2, li_m1, li_0, li_1, li_2, li_3, li_4, li_5, li_6, li_7, li_9, li_10, li_12, li_15, li_16, li_20, li_40, li_99, li_999, show fC0 2 = 0 from rfl, show fC0 3 = 0 from rfl, show fC0 26 = 0 from rfl, show fC0 27 = 0 from rfl, show fC0 28 = 0 from rfl, show fC0 29 = 0 from rfl, show Int32.ofNat 6 = 6 from rfl, show Int32.ofNat 4 = 4 from rfl, show (0 : Int32) - 1 = -1 from rfl, show iR0 18 = (fun _ => 0) from rfl] at *; omega)
