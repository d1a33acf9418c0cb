set_option maxRecDepth 100000 in
set_option maxHeartbeats 40000000 in
theorem pR_row (r n : Int32) (Q : nk_Q) (hq : ∀ h : nk_H, Q (some (.int (f_row r n))) h) : ev_X6_row [.ref 0, .int r, .int n] hR0 Q := by
  all_goals rcases sp_0_5 r with rfl | rfl | rfl | rfl | rfl | rfl | hs_r
  all_goals repeat' first
    | (refine lr_row 0 (by decide) _ _ _ _ ⟨_, rfl, rfl⟩ rfl (fun h => ?_))
    | (refine lr_row 1 (by decide) _ _ _ _ ⟨_, rfl, rfl⟩ rfl (fun h => ?_))
    | (refine lr_row 2 (by decide) _ _ _ _ ⟨_, rfl, rfl⟩ rfl (fun h => ?_))
    | (refine lr_row 3 (by decide) _ _ _ _ ⟨_, rfl, rfl⟩ rfl (fun h => ?_))
    | (refine lr_row 4 (by decide) _ _ _ _ ⟨_, rfl, rfl⟩ rfl (fun h => ?_))
    | (refine lr_row 5 (by decide) _ _ _ _ ⟨_, rfl, rfl⟩ rfl (fun h => ?_))
    | refine nk_s ?_
    | refine nk_br.t (by decide) ?_
    | refine nk_br.f (by decide) ?_
    | (refine nk_br.mk (fun _ => ?_) (fun _ => ?_) <;> try (exfalso; simp only [Int32.lt_iff_toInt_lt, Int32.le_iff_toInt_le, li_m9, li_m4, li_m3, li_m2, li_m1, li_0, li_1, li_2, li_3, li_4, li_5, li_6, li_7, li_9, li_10, li_12, li_15, li_16, li_20, li_40, li_99, li_999, show fC0 2 = 0 from rfl, show fC0 3 = 0 from rfl, show fC0 26 = 0 from rfl, show fC0 27 = 0 from rfl, show fC0 28 = 0 from rfl, show fC0 29 = 0 from rfl, show Int32.ofNat 6 = 6 from rfl, show Int32.ofNat 4 = 4 from rfl, show (0 : Int32) - 1 = -1 from rfl, show iR0 18 = (fun _ => 0) from rfl] at *; omega; done))
    | refine nk_bo0 ?_
    | refine nk_bo1 ?_
    | refine And.intro (by unfold vp_in; decide) ?_
    | (fail; refine nk_swx ?_; first | refine nk_sw_d (by decide) (by decide) ?_ | refine nk_sw_i 0 (by decide) (by decide) ?_ | refine nk_sw_i 1 (by decide) (by decide) ?_ | refine nk_sw_i 2 (by decide) (by decide) ?_ | refine nk_sw_i 3 (by decide) (by decide) ?_ | refine nk_sw_i 4 (by decide) (by decide) ?_ | refine nk_sw_i 5 (by decide) (by decide) ?_ | fail)
    | fail
  all_goals first
    | (refine lf hq ?_
       unfold f_row
       repeat' split
       all_goals first
         | rfl
         | (exfalso; simp only [Int32.lt_iff_toInt_lt, Int32.le_iff_toInt_le, li_m9, li_m4, li_m3, li_m2, li_m1, li_0, li_1, li_2, li_3, li_4, li_5, li_6, li_7, li_9, li_10, li_12, li_15, li_16, li_20, li_40, li_99, li_999, show fC0 2 = 0 from rfl, show fC0 3 = 0 from rfl, show fC0 26 = 0 from rfl, show fC0 27 = 0 from rfl, show fC0 28 = 0 from rfl, show fC0 29 = 0 from rfl, show Int32.ofNat 6 = 6 from rfl, show Int32.ofNat 4 = 4 from rfl, show (0 : Int32) - 1 = -1 from rfl, show iR0 18 = (fun _ => 0) from rfl] at *; omega))
    | (exfalso; simp only [Int32.lt_iff_toInt_lt, Int32.le_iff_toInt_le, li_m9, li_m4, li_m3, li_m2, li_m1, li_0, li_1, li_2, li_3, li_4, li_5, li_6, li_7, li_9, li_10, li_12, li_15, li_16, li_20, li_40, li_99, li_999, show fC0 2 = 0 from rfl, show fC0 3 = 0 from rfl, show fC0 26 = 0 from rfl, show fC0 27 = 0 from rfl, show fC0 28 = 0 from rfl, show fC0 29 = 0 from rfl, show Int32.ofNat 6 = 6 from rfl, show Int32.ofNat 4 = 4 from rfl, show (0 : Int32) - 1 = -1 from rfl, show iR0 18 = (fun _ => 0) from rfl] at *; omega)

set_option maxRecDepth 100000 in
set_option maxHeartbeats 40000000 in
theorem pR_text (r n : Int32) (Q : nk_Q) (hq : ∀ h : nk_H, Q (some (.int (f_text r n))) h) : ev_X6_text [.ref 0, .int r, .int n] hR0 Q := by
  all_goals rcases sp_0_3 r with rfl | rfl | rfl | rfl | hs_r
  all_goals repeat' first
    | (refine lr_text 0 (by decide) _ _ _ _ ⟨_, rfl, rfl⟩ rfl (fun h => ?_))
    | (refine lr_text 1 (by decide) _ _ _ _ ⟨_, rfl, rfl⟩ rfl (fun h => ?_))
    | (refine lr_text 2 (by decide) _ _ _ _ ⟨_, rfl, rfl⟩ rfl (fun h => ?_))
    | (refine lr_text 3 (by decide) _ _ _ _ ⟨_, rfl, rfl⟩ rfl (fun h => ?_))
    | refine nk_s ?_
    | refine nk_br.t (by decide) ?_
    | refine nk_br.f (by decide) ?_
    | (refine nk_br.mk (fun _ => ?_) (fun _ => ?_) <;> try (exfalso; simp only [Int32.lt_iff_toInt_lt, Int32.le_iff_toInt_le, li_m9, li_m4, li_m3, li_m2, li_m1, li_0, li_1, li_2, li_3, li_4, li_5, li_6, li_7, li_9, li_10, li_12, li_15, li_16, li_20, li_40, li_99, li_999, show fC0 2 = 0 from rfl, show fC0 3 = 0 from rfl, show fC0 26 = 0 from rfl, show fC0 27 = 0 from rfl, show fC0 28 = 0 from rfl, show fC0 29 = 0 from rfl, show Int32.ofNat 6 = 6 from rfl, show Int32.ofNat 4 = 4 from rfl, show (0 : Int32) - 1 = -1 from rfl, show iR0 18 = (fun _ => 0) from rfl] at *; omega; done))
    | refine nk_bo0 ?_
    | refine nk_bo1 ?_
    | refine And.intro (by unfold vp_in; decide) ?_
    | (fail; refine nk_swx ?_; first | refine nk_sw_d (by decide) (by decide) ?_ | refine nk_sw_i 0 (by decide) (by decide) ?_ | refine nk_sw_i 1 (by decide) (by decide) ?_ | refine nk_sw_i 2 (by decide) (by decide) ?_ | refine nk_sw_i 3 (by decide) (by decide) ?_ | refine nk_sw_i 4 (by decide) (by decide) ?_ | refine nk_sw_i 5 (by decide) (by decide) ?_ | fail)
    | fail
  all_goals first
    | (refine lf hq ?_
       unfold f_text
       repeat' split
       all_goals first
         | rfl
         | (exfalso; simp only [Int32.lt_iff_toInt_lt, Int32.le_iff_toInt_le, li_m9, li_m4, li_m3, li_m2, li_m1, li_0, li_1, li_2, li_3, li_4, li_5, li_6, li_7, li_9, li_10, li_12, li_15, li_16, li_20, li_40, li_99, li_999, show fC0 2 = 0 from rfl, show fC0 3 = 0 from rfl, show fC0 26 = 0 from rfl, show fC0 27 = 0 from rfl, show fC0 28 = 0 from rfl, show fC0 29 = 0 from rfl, show Int32.ofNat 6 = 6 from rfl, show Int32.ofNat 4 = 4 from rfl, show (0 : Int32) - 1 = -1 from rfl, show iR0 18 = (fun _ => 0) from rfl] at *; omega))
    | (exfalso; simp only [Int32.lt_iff_toInt_lt, Int32.le_iff_toInt_le, li_m9, li_m4, li_m3, li_m2, li_m1, li_0, li_1, li_2, li_3, li_4, li_5, li_6, li_7, li_9, li_10, li_12, li_15, li_16, li_20, li_40, li_99, li_999, show fC0 2 = 0 from rfl, show fC0 3 = 0 from rfl, show fC0 26 = 0 from rfl, show fC0 27 = 0 from rfl, show fC0 28 = 0 from rfl, show fC0 29 = 0 from rfl, show Int32.ofNat 6 = 6 from rfl, show Int32.ofNat 4 = 4 from rfl, show (0 : Int32) - 1 = -1 from rfl, show iR0 18 = (fun _ => 0) from rfl] at *; omega)

set_option maxRecDepth 100000 in
set_option maxHeartbeats 40000000 in
theorem pR_undo (a b : Int32) (Q : nk_Q) (hq : ∀ h : nk_H, Q (some (.int (f_undo a b))) h) : ev_X6_undo [.ref 0, .int a, .int b] hR0 Q := by
  all_goals rcases sp_0_0 b with rfl | hs_b
  all_goals repeat' first
    | refine nk_s ?_
    | refine nk_br.t (by decide) ?_
    | refine nk_br.f (by decide) ?_
    | (refine nk_br.mk (fun _ => ?_) (fun _ => ?_) <;> try (exfalso; simp only [Int32.lt_iff_toInt_lt, Int32.le_iff_toInt_le, li_m9, li_m4, li_m3, li_m2, li_m1, li_0, li_1, li_2, li_3, li_4, li_5, li_6, li_7, li_9, li_10, li_12, li_15, li_16, li_20, li_40, li_99, li_999, show fC0 2 = 0 from rfl, show fC0 3 = 0 from rfl, show fC0 26 = 0 from rfl, show fC0 27 = 0 from rfl, show fC0 28 = 0 from rfl, show fC0 29 = 0 from rfl, show Int32.ofNat 6 = 6 from rfl, show Int32.ofNat 4 = 4 from rfl, show (0 : Int32) - 1 = -1 from rfl, show iR0 18 = (fun _ => 0) from rfl] at *; omega; done))
    | refine nk_bo0 ?_
    | refine nk_bo1 ?_
    | refine And.intro (by unfold vp_in; decide) ?_
    | (fail; refine nk_swx ?_; first | refine nk_sw_d (by decide) (by decide) ?_ | refine nk_sw_i 0 (by decide) (by decide) ?_ | refine nk_sw_i 1 (by decide) (by decide) ?_ | refine nk_sw_i 2 (by decide) (by decide) ?_ | refine nk_sw_i 3 (by decide) (by decide) ?_ | refine nk_sw_i 4 (by decide) (by decide) ?_ | refine nk_sw_i 5 (by decide) (by decide) ?_ | fail)
    | fail
  all_goals first
    | (refine lf hq ?_
       unfold f_undo
       repeat' split
       all_goals first
         | rfl
         | (exfalso; simp only [Int32.lt_iff_toInt_lt, Int32.le_iff_toInt_le, li_m9, li_m4, li_m3, li_m2, li_m1, li_0, li_1, li_2, li_3, li_4, li_5, li_6, li_7, li_9, li_10, li_12, li_15, li_16, li_20, li_40, li_99, li_999, show fC0 2 = 0 from rfl, show fC0 3 = 0 from rfl, show fC0 26 = 0 from rfl, show fC0 27 = 0 from rfl, show fC0 28 = 0 from rfl, show fC0 29 = 0 from rfl, show Int32.ofNat 6 = 6 from rfl, show Int32.ofNat 4 = 4 from rfl, show (0 : Int32) - 1 = -1 from rfl, show iR0 18 = (fun _ => 0) from rfl] at *; omega))
    | (exfalso; simp only [Int32.lt_iff_toInt_lt, Int32.le_iff_toInt_le, li_m9, li_m4, li_m3, li_m2, li_m1, li_0, li_1, li_2, li_3, li_4, li_5, li_6, li_7, li_9, li_10, li_12, li_15, li_16, li_20, li_40, li_99, li_999, show fC0 2 = 0 from rfl, show fC0 3 = 0 from rfl, show fC0 26 = 0 from rfl, show fC0 27 = 0 from rfl, show fC0 28 = 0 from rfl, show fC0 29 = 0 from rfl, show Int32.ofNat 6 = 6 from rfl, show Int32.ofNat 4 = 4 from rfl, show (0 : Int32) - 1 = -1 from rfl, show iR0 18 = (fun _ => 0) from rfl] at *; omega)

set_option maxRecDepth 100000 in
set_option maxHeartbeats 40000000 in
theorem pR_layer (r i : Int32) (Q : nk_Q) (hq : ∀ h : nk_H, Q (some (.int (f_layer r i))) h) : ev_X6_layer [.ref 0, .int r, .int i] hR0 Q := by
  all_goals rcases sp_0_3 r with rfl | rfl | rfl | rfl | hs_r
  all_goals repeat' first
    | refine nk_s ?_
    | refine nk_br.t (by decide) ?_
    | refine nk_br.f (by decide) ?_
    | (refine nk_br.mk (fun _ => ?_) (fun _ => ?_) <;> try (exfalso; simp only [Int32.lt_iff_toInt_lt, Int32.le_iff_toInt_le, li_m9, li_m4, li_m3, li_m2, li_m1, li_0, li_1, li_2, li_3, li_4, li_5, li_6, li_7, li_9, li_10, li_12, li_15, li_16, li_20, li_40, li_99, li_999, show fC0 2 = 0 from rfl, show fC0 3 = 0 from rfl, show fC0 26 = 0 from rfl, show fC0 27 = 0 from rfl, show fC0 28 = 0 from rfl, show fC0 29 = 0 from rfl, show Int32.ofNat 6 = 6 from rfl, show Int32.ofNat 4 = 4 from rfl, show (0 : Int32) - 1 = -1 from rfl, show iR0 18 = (fun _ => 0) from rfl] at *; omega; done))
    | refine nk_bo0 ?_
    | refine nk_bo1 ?_
    | refine And.intro (by unfold vp_in; decide) ?_
    | (fail; refine nk_swx ?_; first | refine nk_sw_d (by decide) (by decide) ?_ | refine nk_sw_i 0 (by decide) (by decide) ?_ | refine nk_sw_i 1 (by decide) (by decide) ?_ | refine nk_sw_i 2 (by decide) (by decide) ?_ | refine nk_sw_i 3 (by decide) (by decide) ?_ | refine nk_sw_i 4 (by decide) (by decide) ?_ | refine nk_sw_i 5 (by decide) (by decide) ?_ | fail)
    | fail
  all_goals first
    | (refine lf hq ?_
       unfold f_layer
       repeat' split
       all_goals first
         | rfl
         | (exfalso; simp only [Int32.lt_iff_toInt_lt, Int32.le_iff_toInt_le, li_m9, li_m4, li_m3, li_m2, li_m1, li_0, li_1, li_2, li_3, li_4, li_5, li_6, li_7, li_9, li_10, li_12, li_15, li_16, li_20, li_40, li_99, li_999, show fC0 2 = 0 from rfl, show fC0 3 = 0 from rfl, show fC0 26 = 0 from rfl, show fC0 27 = 0 from rfl, show fC0 28 = 0 from rfl, show fC0 29 = 0 from rfl, show Int32.ofNat 6 = 6 from rfl, show Int32.ofNat 4 = 4 from rfl, show (0 : Int32) - 1 = -1 from rfl, show iR0 18 = (fun _ => 0) from rfl] at *; omega))
    | (exfalso; simp only [Int32.lt_iff_toInt_lt, Int32.le_iff_toInt_le, li_m9, li_m4, li_m3, li_m2, li_m1, li_0, li_1, li_2, li_3, li_4, li_5, li_6, li_7, li_9, li_10, li_12, li_15, li_16, li_20, li_40, li_99, li_999, show fC0 2 = 0 from rfl, show fC0 3 = 0 from rfl, show fC0 26 = 0 from rfl, show fC0 27 = 0 from rfl, show fC0 28 = 0 from rfl, show fC0 29 = 0 from rfl, show Int32.ofNat 6 = 6 from rfl, show Int32.ofNat 4 = 4 from rfl, show (0 : Int32) - 1 = -1 from rfl, show iR0 18 = (fun _ => 0) from rfl] at *; omega)
